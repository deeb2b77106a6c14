def adU (ad : Nat → Nat) (lo hi : Nat) (qs : List Nat) : Nat → Nat := fun i => if lo ≤ i ∧ i < hi then qs.getD (i - lo) 0 else ad i
/-- Free and Duel at their start -/
def Fr0 : St := (fun _ => 0, fun _ _ => 0, fun _ _ => 0, fun _ => none)
def Pr0 : St := (fun k => if k = 72 ∨ k = 73 then 1 else 0, fun _ _ => 0, fun _ _ => 0, fun _ => none)
def ckz {α : Type} (o : Option Nat) (x : Option α) : Option α := match o with
  | none => x
  | some _ => none
theorem ckz_of {α : Type} {o : Option Nat} {x : Option α} {r : α} (h : ckz o x = some r) : o = none ∧ x = some r := by
  cases o with
  | none => exact ⟨rfl, h⟩
  | some j => cases h
def ckw {α : Type} (o : Option Nat) (x : Option α) : Option α := match o with
  | none => x
  | some j => if j < 7 then x else none
theorem ckw_of {α : Type} {o : Option Nat} {x : Option α} {r : α} (h : ckw o x = some r) : (o = none ∨ ∃ j, j < 7 ∧ o = some j) ∧ x = some r := by
  cases o with
  | none => exact ⟨Or.inl rfl, h⟩
  | some j =>
    have h : (if j < 7 then x else none) = some r := h
    split at h
    · rename_i h1
      exact ⟨Or.inr ⟨j, h1, rfl⟩, h⟩
    · cases h
theorem Wd.rot3 {D : va_G} {cy : Nat → ClassId} {A : Nat → Prop} {s : State} {H : Heap} {locs : List Loc} {l n X : va_W} (h : Wd D cy A s (n ++ (l ++ X)) H locs) : Wd D cy A s (l ++ (n ++ X)) H locs := by
  have := Wd.rot2 h
  rw [List.append_assoc] at this
  exact this
def wCw (ad : Nat → Nat) (cy : Nat → ClassId) (S : St) (pw pf pp : Value) : va_W := [(ad 0, .inr (8, [.ref (ad 1), .ref (ad 3), .ref (ad 25), .ref (ad 34), .ref (ad 43), .ref (ad 44), .ref (ad 46), .ref (ad 51), .ref (ad 58), .int (S.1 0), pf, pp])),
  (ad 1, .inr (7, [.ref (ad 2), .int (S.1 1), .int (S.1 2), .int (S.1 3)])),
  (ad 2, .inl (cy 2, 240, .inl (S.2.1 2))),
  (ad 3, .inl (cy 4, 7, .inr (.inr (.inr (.inr (fun i => some (ad (4 + 3 * i)))))))),
  (ad 4, .inr (3, [.int (S.1 10), .int (S.1 11), .ref (ad 5), .ref (ad 6)])),
  (ad 5, .inl (cy 0, 123, .inl (S.2.1 5))),
  (ad 6, .inl (cy 0, 9, .inl (S.2.1 6))),
  (ad 7, .inr (3, [.int (S.1 12), .int (S.1 13), .ref (ad 8), .ref (ad 9)])),
  (ad 8, .inl (cy 0, 123, .inl (S.2.1 8))),
  (ad 9, .inl (cy 0, 9, .inl (S.2.1 9))),
  (ad 10, .inr (3, [.int (S.1 14), .int (S.1 15), .ref (ad 11), .ref (ad 12)])),
  (ad 11, .inl (cy 0, 123, .inl (S.2.1 11))),
  (ad 12, .inl (cy 0, 9, .inl (S.2.1 12))),
  (ad 13, .inr (3, [.int (S.1 16), .int (S.1 17), .ref (ad 14), .ref (ad 15)])),
  (ad 14, .inl (cy 0, 123, .inl (S.2.1 14))),
  (ad 15, .inl (cy 0, 9, .inl (S.2.1 15))),
  (ad 16, .inr (3, [.int (S.1 18), .int (S.1 19), .ref (ad 17), .ref (ad 18)])),
  (ad 17, .inl (cy 0, 123, .inl (S.2.1 17))),
  (ad 18, .inl (cy 0, 9, .inl (S.2.1 18))),
  (ad 19, .inr (3, [.int (S.1 20), .int (S.1 21), .ref (ad 20), .ref (ad 21)])),
  (ad 20, .inl (cy 0, 123, .inl (S.2.1 20))),
  (ad 21, .inl (cy 0, 9, .inl (S.2.1 21))),
  (ad 22, .inr (3, [.int (S.1 22), .int (S.1 23), .ref (ad 23), .ref (ad 24)])),
  (ad 23, .inl (cy 0, 123, .inl (S.2.1 23))),
  (ad 24, .inl (cy 0, 9, .inl (S.2.1 24))),
  (ad 25, .inr (4, [.ref (ad 3), .int (S.1 30), .int (S.1 31), .int (S.1 32), .int (S.1 33), .int (S.1 34), .ref (ad 26), .ref (ad 27), .ref (ad 28), .ref (ad 29), .ref (ad 30), .ref (ad 31), .ref (ad 32), .ref (ad 33), .int (S.1 35), .int (S.1 36)])),
  (ad 26, .inl (cy 0, 6, .inl (S.2.1 26))),
  (ad 27, .inl (cy 3, 6, .inl (S.2.1 27))),
  (ad 28, .inl (cy 0, 6, .inl (S.2.1 28))),
  (ad 29, .inl (cy 3, 6, .inl (S.2.1 29))),
  (ad 30, .inl (cy 0, 18, .inl (S.2.1 30))),
  (ad 31, .inl (cy 0, 6, .inl (S.2.1 31))),
  (ad 32, .inl (cy 0, 6, .inl (S.2.1 32))),
  (ad 33, .inl (cy 0, 216, .inl (S.2.1 33))),
  (ad 34, .inr (4, [.ref (ad 3), .int (S.1 40), .int (S.1 41), .int (S.1 42), .int (S.1 43), .int (S.1 44), .ref (ad 35), .ref (ad 36), .ref (ad 37), .ref (ad 38), .ref (ad 39), .ref (ad 40), .ref (ad 41), .ref (ad 42), .int (S.1 45), .int (S.1 46)])),
  (ad 35, .inl (cy 0, 6, .inl (S.2.1 35))),
  (ad 36, .inl (cy 3, 6, .inl (S.2.1 36))),
  (ad 37, .inl (cy 0, 6, .inl (S.2.1 37))),
  (ad 38, .inl (cy 3, 6, .inl (S.2.1 38))),
  (ad 39, .inl (cy 0, 18, .inl (S.2.1 39))),
  (ad 40, .inl (cy 0, 6, .inl (S.2.1 40))),
  (ad 41, .inl (cy 0, 6, .inl (S.2.1 41))),
  (ad 42, .inl (cy 0, 216, .inl (S.2.1 42))),
  (ad 43, .inr (5, [.int (S.1 50), .int (S.1 51), .int (S.1 52), .int (S.1 53), .int (S.1 54), .int (S.1 55), .int (S.1 56), .int (S.1 57)])),
  (ad 44, .inr (0, [.ref (ad 45), .int (S.1 60)])),
  (ad 45, .inl (cy 0, 242, .inl (S.2.1 45))),
  (ad 46, .inr (6, [pw, .int (S.1 61), va_rf ((S.2.2.2 1).map (fun _ => ad 44)), .ref (ad 47)])),
  (ad 47, .inl (cy 5, 3, .inr (.inr (.inr (.inr (fun i => some (ad (48 + i)))))))),
  (ad 48, .inl (cy 0, 242, .inl (S.2.1 48))),
  (ad 49, .inl (cy 0, 242, .inl (S.2.1 49))),
  (ad 50, .inl (cy 0, 242, .inl (S.2.1 50))),
  (ad 51, .inl (cy 5, 6, .inr (.inr (.inr (.inr (fun i => some (ad (52 + i)))))))),
  (ad 52, .inl (cy 0, 122, .inl (S.2.1 52))),
  (ad 53, .inl (cy 0, 122, .inl (S.2.1 53))),
  (ad 54, .inl (cy 0, 122, .inl (S.2.1 54))),
  (ad 55, .inl (cy 0, 122, .inl (S.2.1 55))),
  (ad 56, .inl (cy 0, 122, .inl (S.2.1 56))),
  (ad 57, .inl (cy 0, 122, .inl (S.2.1 57))),
  (ad 58, .inl (cy 1, 9, .inr (.inl (S.2.2.1 58))))]
theorem wd_adF {D : va_G} {cy : Nat → ClassId} {A : Nat → Prop} {s : State} {H : Heap} {locs : List Loc} {ad : Nat → Nat} {S : St} {Y : va_W} {qs : List Nat} (hz : S.2.2.2 2 = none) (hw : S.2.2.2 0 = none ∨ ∃ j, j < 7 ∧ S.2.2.2 0 = some j) (hW : Wd D cy A s (wC ad cy S ++ Y) H locs) : Wd D cy A s (wC (adU ad 59 81 qs) cy S ++ Y) H locs := by
  have hW := Wd.cellE (q0 := 3) (x' := (7, .inr (.inr (.inr (.inr (fun i => some (adU ad 59 81 qs (4 + 3 * i)))))))) rfl (cell_q _ _ (fun j hj => match j, hj with | 0, _ => rfl | 1, _ => rfl | 2, _ => rfl | 3, _ => rfl | 4, _ => rfl | 5, _ => rfl | 6, _ => rfl | k + 7, h => absurd h (by omega))) hW
  have hW := Wd.cellE (q0 := 47) (x' := (3, .inr (.inr (.inr (.inr (fun i => some (adU ad 59 81 qs (48 + i)))))))) rfl (cell_q _ _ (fun j hj => match j, hj with | 0, _ => rfl | 1, _ => rfl | 2, _ => rfl | k + 3, h => absurd h (by omega))) hW
  have hW := Wd.cellE (q0 := 51) (x' := (6, .inr (.inr (.inr (.inr (fun i => some (adU ad 59 81 qs (52 + i)))))))) rfl (cell_q _ _ (fun j hj => match j, hj with | 0, _ => rfl | 1, _ => rfl | 2, _ => rfl | 3, _ => rfl | 4, _ => rfl | 5, _ => rfl | k + 6, h => absurd h (by omega))) hW
  have e : va_rf ((S.2.2.2 0).map (fun j => adU ad 59 81 qs (4 + 3 * j))) = va_rf ((S.2.2.2 0).map (fun j => ad (4 + 3 * j))) := by
    rcases hw with h | ⟨j, hj, h⟩
    · rw [h]; rfl
    · rw [h]
      exact match j, hj with
      | 0, _ => rfl | 1, _ => rfl | 2, _ => rfl | 3, _ => rfl | 4, _ => rfl | 5, _ => rfl | 6, _ => rfl
      | k + 7, h => absurd h (by omega)
  have e2 : va_rf ((S.2.2.2 2).map (fun _ => adU ad 59 81 qs 59)) = va_rf ((S.2.2.2 2).map (fun _ => ad 59)) := by rw [hz]; rfl
  have h1 : wC (adU ad 59 81 qs) cy S = wCw (adU ad 59 81 qs) cy S (va_rf ((S.2.2.2 0).map (fun j => adU ad 59 81 qs (4 + 3 * j)))) (va_rf ((S.2.2.2 2).map (fun _ => adU ad 59 81 qs 59))) (va_rf ((S.2.2.2 3).map (fun _ => adU ad 59 81 qs 81))) := rfl
  rw [h1, e, e2]
  exact hW
theorem wd_adP {D : va_G} {cy : Nat → ClassId} {A : Nat → Prop} {s : State} {H : Heap} {locs : List Loc} {ad : Nat → Nat} {S : St} {Y : va_W} {qs : List Nat} (hz : S.2.2.2 3 = none) (hw : S.2.2.2 0 = none ∨ ∃ j, j < 7 ∧ S.2.2.2 0 = some j) (hW : Wd D cy A s (wC ad cy S ++ Y) H locs) : Wd D cy A s (wC (adU ad 81 90 qs) cy S ++ Y) H locs := by
  have hW := Wd.cellE (q0 := 3) (x' := (7, .inr (.inr (.inr (.inr (fun i => some (adU ad 81 90 qs (4 + 3 * i)))))))) rfl (cell_q _ _ (fun j hj => match j, hj with | 0, _ => rfl | 1, _ => rfl | 2, _ => rfl | 3, _ => rfl | 4, _ => rfl | 5, _ => rfl | 6, _ => rfl | k + 7, h => absurd h (by omega))) hW
  have hW := Wd.cellE (q0 := 47) (x' := (3, .inr (.inr (.inr (.inr (fun i => some (adU ad 81 90 qs (48 + i)))))))) rfl (cell_q _ _ (fun j hj => match j, hj with | 0, _ => rfl | 1, _ => rfl | 2, _ => rfl | k + 3, h => absurd h (by omega))) hW
  have hW := Wd.cellE (q0 := 51) (x' := (6, .inr (.inr (.inr (.inr (fun i => some (adU ad 81 90 qs (52 + i)))))))) rfl (cell_q _ _ (fun j hj => match j, hj with | 0, _ => rfl | 1, _ => rfl | 2, _ => rfl | 3, _ => rfl | 4, _ => rfl | 5, _ => rfl | k + 6, h => absurd h (by omega))) hW
  have e : va_rf ((S.2.2.2 0).map (fun j => adU ad 81 90 qs (4 + 3 * j))) = va_rf ((S.2.2.2 0).map (fun j => ad (4 + 3 * j))) := by
    rcases hw with h | ⟨j, hj, h⟩
    · rw [h]; rfl
    · rw [h]
      exact match j, hj with
      | 0, _ => rfl | 1, _ => rfl | 2, _ => rfl | 3, _ => rfl | 4, _ => rfl | 5, _ => rfl | 6, _ => rfl
      | k + 7, h => absurd h (by omega)
  have e2 : va_rf ((S.2.2.2 3).map (fun _ => adU ad 81 90 qs 81)) = va_rf ((S.2.2.2 3).map (fun _ => ad 81)) := by rw [hz]; rfl
  have h1 : wC (adU ad 81 90 qs) cy S = wCw (adU ad 81 90 qs) cy S (va_rf ((S.2.2.2 0).map (fun j => adU ad 81 90 qs (4 + 3 * j)))) (va_rf ((S.2.2.2 2).map (fun _ => adU ad 81 90 qs 59))) (va_rf ((S.2.2.2 3).map (fun _ => adU ad 81 90 qs 81))) := rfl
  rw [h1, e, e2]
  exact hW
def m_X8_thinkFreelyB (n : Nat) (S : St) (p0 : Int32) (p1 : Int32) : Option (St × St) :=
  ckz (S.2.2.2 2) (ckw (S.2.2.2 0) (nm (sR S 2 (some 0)) (fun S3 => nm Fr0 (fun F5 => ((if p1 = 0 then (some S3) else ((m_X0_beStep n S3).bind (fun r19 => some r19)) : Option (St))).bind (fun q8 => onw (q8.2.2.2 2) 1 (fun j10 => ck p0 7 ((m_X2_prepare n q8 F5 p0.toNatClampNeg (q8.1 31)).bind (fun r14 => onw (q8.2.2.2 2) 1 (fun j16 => some (q8, r14))))))))))
set_option maxHeartbeats 8000000 in
set_option maxRecDepth 100000 in
theorem c_X8_thinkFreelyB (l : Launch) (D : va_G) (cy : Nat → ClassId) (ad : Nat → Nat) (X : va_W) (n : Nat) (S : St) (p0 : Int32) (p1 : Int32) (r : (St × St)) (h : m_X8_thinkFreelyB n S p0 p1 = some r) : CTa l yX8_thinkFreely (wu yX8_thinkFreely cX8_thinkFreely 3 (some (.object "NextLoad$Free"))) 3 22 3306 D cy [.ref (ad 0), .int p0, .int p1] (wC ad cy S ++ X) (fun v w' => ∃ qs : List Nat, v = some (.ref (adU ad 59 81 qs 59)) ∧ w' = wC (adU ad 59 81 qs) cy r.1 ++ (wF (adU ad 59 81 qs) cy r.2 ++ X)) := by
  refine CTa.mk (cc := cX8_thinkFreely) (maxL := 3) (ret := (some (.object "NextLoad$Free"))) (own := RX8) (by decide) rfl rfl (Nat.le_of_ble_eq_true rfl) ?_
  intro p e s m args below meth c ls A Q hA hQ hC hr hk hnm hW hl
  have hx := hC.1
  have hb := hC.2.1
  have hown := hC.2.2.2.1
  have hts := hC.2.2.2.2
  have hl : lv_has ls 3 [(0, .ref (ad 0)), (1, .int p0), (2, .int p1)] := hl
  have f69 := hts _ (wu_in w_2_19)
  have i8 := (fun w h => wu_in (inc_8 w h) : ∀ w ∈ u_ws RX8 TX8 12, w ∈ (wu yX8_thinkFreely cX8_thinkFreely 3 (some (.object "NextLoad$Free"))))
  have i2 := (fun w h => wu_in (inc_2 w h) : ∀ w ∈ u_ws RX2 TX2 12, w ∈ (wu yX8_thinkFreely cX8_thinkFreely 3 (some (.object "NextLoad$Free"))))
  have cl233 := hts _ (wu_in w_35_4)
  have in2 := hts _ (wu_in w_35_5)
  have iz2 := hts _ (wu_in w_35_6)
  have im2 := hts _ (wu_in w_35_7)
  have f18 := hts _ (wu_in w_1_18)
  have f28 := hts _ (wu_in w_2_0)
  have f111 := hts _ (wu_in w_14_13)
  have i4 := (fun w h => wu_in (inc_4 w h) : ∀ w ∈ u_ws RX4 TX4 16, w ∈ (wu yX8_thinkFreely cX8_thinkFreely 3 (some (.object "NextLoad$Free"))))
  have f45 := hts _ (wu_in w_2_9)
  unfold m_X8_thinkFreelyB at h
  refine lv_aload_n hx hb dX8_thinkFreely_0 rfl (lv_at hl 0 rfl) ?_
  obtain ⟨hz1, h⟩ := ckz_of h
  refine wd_get (v := .null) hC i8 hW 0 wC_c0 rfl 10 (Nat.le_of_ble_eq_true rfl) f69 rfl (congrArg some (by rw [hz1]; rfl)) dX8_thinkFreely_1 ?_
  refine lv_ifnonnullN hx hb dX8_thinkFreely_4 ?_
  refine lv_aload_n hx hb dX8_thinkFreely_7 rfl (lv_at hl 0 rfl) ?_
  refine wa_new (ci := 2) (fs := [.int 0, .int 0, .null, .null, .null, .int 0, .int 0, .null, .null, .null, .null, .null]) hC i2 tyX2_ok cl233 in2 iz2 hW rfl dfX2 (by decide +kernel) (by decide +kernel) dX8_thinkFreely_8 (fun q0 H hW => ?_)
  refine lv_dup hx hb dX8_thinkFreely_11 rfl ?_
  refine wa_callIN (As := []) hC hW (c_X2_init l D cy _ q0) ⟨va_cnB 0 hts (gu_N w_35_8) rfl rfl rfl (hW.2.2.2.2.2.at 6 rfl) iz2 hdX2_init ⟨Nat.le_of_ble_eq_true rfl, Nat.le_of_ble_eq_true rfl⟩, rfl, im2⟩ rfl hl.1 rfl (Nat.le_of_ble_eq_true rfl) ⟨by decide +kernel, by decide +kernel⟩ dX8_thinkFreely_12 (fun r w' H locs hp hW => ?_)
  obtain ⟨rfl, q1, r1, q2, q3, r3, q4, q5, q6, q7, q8, rfl⟩ := hp
  have hW := Wd.rot3 hW
  have hW := Wd.cellE (q0 := 60) (x' := (9, .inr (.inr (.inr (.inr (fun i => some (adU ad 59 81 [q0, q1, r1 0, r1 1, r1 2, r1 3, r1 4, r1 5, r1 6, r1 7, r1 8, q2, q3, r3 0, r3 1, r3 2, r3 3, q4, q5, q6, q7, q8] (61 + i)))))))) rfl (cell_q _ _ (fun j hj => match j, hj with | 0, _ => rfl | 1, _ => rfl | 2, _ => rfl | 3, _ => rfl | 4, _ => rfl | 5, _ => rfl | 6, _ => rfl | 7, _ => rfl | 8, _ => rfl | k + 9, h => absurd h (by omega))) hW
  have hW := Wd.cellE (q0 := 71) (x' := (4, .inr (.inr (.inr (.inr (fun i => some (adU ad 59 81 [q0, q1, r1 0, r1 1, r1 2, r1 3, r1 4, r1 5, r1 6, r1 7, r1 8, q2, q3, r3 0, r3 1, r3 2, r3 3, q4, q5, q6, q7, q8] (72 + i)))))))) rfl (cell_q _ _ (fun j hj => match j, hj with | 0, _ => rfl | 1, _ => rfl | 2, _ => rfl | 3, _ => rfl | k + 4, h => absurd h (by omega))) hW
  obtain ⟨hw2, h⟩ := ckw_of h
  refine W.eq (g2 := F0 m 15 ls [.ref q0, .ref (ad 0)]) rfl ?_
  have hW : Wd D cy A s (wC ad cy S ++ (wF (adU ad 59 81 [q0, q1, r1 0, r1 1, r1 2, r1 3, r1 4, r1 5, r1 6, r1 7, r1 8, q2, q3, r3 0, r3 1, r3 2, r3 3, q4, q5, q6, q7, q8]) cy Fr0 ++ X)) H locs := hW
  have hW := wd_adF (qs := [q0, q1, r1 0, r1 1, r1 2, r1 3, r1 4, r1 5, r1 6, r1 7, r1 8, q2, q3, r3 0, r3 1, r3 2, r3 3, q4, q5, q6, q7, q8]) hz1 hw2 hW
  refine wd_put hC i8 tyX8_ok nmX8 hW 0 wC_c0 rfl 10 (Nat.le_of_ble_eq_true rfl) f69 rfl rfl rfl rfl (Nat.le_of_ble_eq_true rfl) (wC_r0_10 (j := 0)) dX8_thinkFreely_15 (fun H locs hW => ?_)
  obtain ⟨qs, hqs⟩ : ∃ z : List Nat, z = [q0, q1, r1 0, r1 1, r1 2, r1 3, r1 4, r1 5, r1 6, r1 7, r1 8, q2, q3, r3 0, r3 1, r3 2, r3 3, q4, q5, q6, q7, q8] := ⟨_, rfl⟩
  rw [← hqs] at hW
  refine W.widen (k := 22) (n := 3306) (by decide +kernel) (by decide +kernel) ?_
  obtain ⟨S3, e4, h⟩ := nm_of h
  replace hW := wq_S e4 hW
  obtain ⟨F5, e6, h⟩ := nm_of h
  replace hW := wq_F e6 hW
  refine lv_iload_n hx hb dX8_thinkFreely_18 rfl (lv_at hl 2 rfl) ?_
  obtain ⟨q8, hq9, h⟩ := bd_of h
  have hJ29 : ∀ (H : Heap) (locs : List Loc) (ls : Array Slot), Wd D cy A s (wC (adU ad 59 81 qs) cy q8 ++ (wF (adU ad 59 81 qs) cy F5 ++ X)) H locs → lv_has ls 3 [(0, .ref ((adU ad 59 81 qs) 0)), (1, .int p0), (2, .int p1)] → W p l e (RMa 3 22 3306) s m args below meth c H locs 22 3306 Q (F0 m 29 ls []) := by
    intro H locs ls hW hl
    refine lv_aload_n hx hb dX8_thinkFreely_29 rfl (lv_at hl 0 rfl) ?_
    obtain ⟨j10, ej11, hj12, h⟩ := onw_of h
    refine wd_get (v := .ref ((adU ad 59 81 qs) 59)) hC i8 hW 0 wC_c0 rfl 10 (Nat.le_of_ble_eq_true rfl) f69 rfl (congrArg some (by rw [ej11]; rfl)) dX8_thinkFreely_30 ?_
    refine lv_aload_n hx hb dX8_thinkFreely_33 rfl (lv_at hl 0 rfl) ?_
    refine wd_get hC i8 hW 0 wC_c0 rfl 1 (Nat.le_of_ble_eq_true rfl) f18 rfl rfl dX8_thinkFreely_34 ?_
    refine lv_iload_n hx hb dX8_thinkFreely_37 rfl (lv_at hl 1 rfl) ?_
    obtain ⟨hi13, h⟩ := ck_of h
    refine wd_aldq hC hW 3 wC_c3 hi13 rfl dX8_thinkFreely_38 ?_
    refine lv_aload_n hx hb dX8_thinkFreely_39 rfl (lv_at hl 0 rfl) ?_
    refine wd_get hC i8 hW 0 wC_c0 rfl 2 (Nat.le_of_ble_eq_true rfl) f28 rfl rfl dX8_thinkFreely_40 ?_
    refine wd_get hC i4 hW 25 wC_c25 rfl 2 (Nat.le_of_ble_eq_true rfl) f111 rfl rfl dX8_thinkFreely_43 ?_
    refine lv_aload_n hx hb dX8_thinkFreely_46 rfl (lv_at hl 0 rfl) ?_
    refine wd_get hC i8 hW 0 wC_c0 rfl 5 (Nat.le_of_ble_eq_true rfl) f45 rfl rfl dX8_thinkFreely_47 ?_
    obtain ⟨r14, hr15, h⟩ := bd_of h
    refine wd_callV0 (As := [.ref ((adU ad 59 81 qs) (4 + 3 * p0.toNatClampNeg)), .int (q8.1 31), .ref ((adU ad 59 81 qs) 44)]) hC hW 59 wF_c59 rfl (c_X2_prepare l D cy (adU ad 59 81 qs) X n q8 F5 p0.toNatClampNeg (q8.1 31) r14 hr15 (in_lt hi13)) (cwV 3 hts (gu_V w_36_2 w_35_23 w_36_0 w_36_1 w_35_6) rfl rfl rfl hdX2_prepare ⟨Nat.le_of_ble_eq_true rfl, Nat.le_of_ble_eq_true rfl⟩) rfl hl.1 rfl (Nat.le_of_ble_eq_true rfl) ⟨Nat.le_of_ble_eq_true rfl, Nat.le_of_ble_eq_true rfl⟩ dX8_thinkFreely_50 (fun H locs hW => ?_)
    refine lv_aload_n hx hb dX8_thinkFreely_53 rfl (lv_at hl 0 rfl) ?_
    obtain ⟨j16, ej17, hj18, h⟩ := onw_of h
    refine wd_get (v := .ref ((adU ad 59 81 qs) 59)) hC i8 hW 0 wC_c0 rfl 10 (Nat.le_of_ble_eq_true rfl) f69 rfl (congrArg some (by rw [ej17]; rfl)) dX8_thinkFreely_54 ?_
    obtain rfl := Option.some.inj h
    exact wa_aret hA hQ hC hr hk hW ⟨qs, rfl, rfl⟩ (by decide +kernel) (by decide +kernel) dX8_thinkFreely_57
  replace h := hq9
  refine lv_if_eq (tgt := 29) hx hb dX8_thinkFreely_19 (by decide) (fun c7 => ?_) (fun c7 => ?_)
  · replace h := ite_t h c7
    obtain rfl := Option.some.inj h
    exact hJ29 _ _ _ hW (lv_sub hl [0, 1, 2] rfl)
  · replace h := ite_f h c7
    refine lv_aload_n hx hb dX8_thinkFreely_22 rfl (lv_at hl 0 rfl) ?_
    refine wd_get hC i8 hW 0 wC_c0 rfl 5 (Nat.le_of_ble_eq_true rfl) f45 rfl rfl dX8_thinkFreely_23 ?_
    obtain ⟨r19, hr20, h⟩ := bd_of h
    refine wd_callV0 (As := []) hC hW 44 wC_c44 rfl (c_X0_beStep l D cy (adU ad 59 81 qs) (wF (adU ad 59 81 qs) cy F5 ++ X) n S3 r19 hr20) (cwV 0 hts (gu_V w_31_2 w_30_23 w_31_0 w_31_1 w_2_8) rfl rfl rfl hdX0_beStep ⟨Nat.le_of_ble_eq_true rfl, Nat.le_of_ble_eq_true rfl⟩) rfl hl.1 rfl (Nat.le_of_ble_eq_true rfl) ⟨Nat.le_of_ble_eq_true rfl, Nat.le_of_ble_eq_true rfl⟩ dX8_thinkFreely_26 (fun H locs hW => ?_)
    obtain rfl := Option.some.inj h
    exact hJ29 _ _ _ hW (lv_sub hl [0, 1, 2] rfl)
def m_X8_byChoiceB (n : Nat) (S : St) (p0 : Int32) : Option (Int32 × St × St) :=
  (m_X8_thinkFreelyB n S p0 0).bind (fun r1 => (m_X5_look r1.1 p0).bind (fun r3 => (m_X5_findTry n r3).bind (fun r5 => (m_X2_valueFrom n r5.2 r1.2).bind (fun r7 => (m_X8_byPlan n r5.2 p0).bind (fun r9 => (m_X8_tellTwo r9.2 (r7.2.1 62) r9.1).bind (fun r11 => some (r7.1, r11, r7.2)))))))
set_option maxHeartbeats 8000000 in
set_option maxRecDepth 100000 in
theorem c_X8_byChoiceB (l : Launch) (D : va_G) (cy : Nat → ClassId) (ad : Nat → Nat) (X : va_W) (n : Nat) (S : St) (p0 : Int32) (r : (Int32 × St × St)) (h : m_X8_byChoiceB n S p0 = some r) : CTa l yX8_byChoice (wu yX8_byChoice cX8_byChoice 5 (some .int)) 44 22 3306 D cy [.ref (ad 0), .int p0] (wC ad cy S ++ X) (fun v w' => v = some (.int r.1) ∧ ∃ qs : List Nat, w' = wC (adU ad 59 81 qs) cy r.2.1 ++ (wF (adU ad 59 81 qs) cy r.2.2 ++ X)) := by
  refine CTa.mk (cc := cX8_byChoice) (maxL := 5) (ret := (some .int)) (own := RX8) (by decide) rfl rfl (Nat.le_of_ble_eq_true rfl) ?_
  intro p e s m args below meth c ls A Q hA hQ hC hr hk hnm hW hl
  have hx := hC.1
  have hb := hC.2.1
  have hown := hC.2.2.2.1
  have hts := hC.2.2.2.2
  have hl : lv_has ls 5 [(0, .ref (ad 0)), (1, .int p0)] := hl
  have f38 := hts _ (wu_in w_2_5)
  have i8 := (fun w h => wu_in (inc_8 w h) : ∀ w ∈ u_ws RX8 TX8 12, w ∈ (wu yX8_byChoice cX8_byChoice 5 (some .int)))
  have f28 := hts _ (wu_in w_2_0)
  have f245 := hts _ (wu_in w_34_23)
  have i2 := (fun w h => wu_in (inc_2 w h) : ∀ w ∈ u_ws RX2 TX2 12, w ∈ (wu yX8_byChoice cX8_byChoice 5 (some .int)))
  unfold m_X8_byChoiceB at h
  refine lv_aload_n hx hb dX8_byChoice_0 rfl (lv_at hl 0 rfl) ?_
  refine lv_iload_n hx hb dX8_byChoice_1 rfl (lv_at hl 1 rfl) ?_
  refine lv_iconst (v := 0) hx hb dX8_byChoice_2 (by decide) ?_
  obtain ⟨r1, hr2, h⟩ := bd_of h
  refine wa_callV (As := [.int p0, .int 0]) hC hW 0 wC_c0 rfl (c_X8_thinkFreelyB l D cy ad X n S p0 0 r1 hr2) (cwV 2 hts (gu_V w_35_3 w_35_0 w_35_1 w_35_2 w_1_2) rfl rfl rfl hdX8_thinkFreely ⟨Nat.le_of_ble_eq_true rfl, Nat.le_of_ble_eq_true rfl⟩) rfl hl.1 rfl (Nat.le_of_ble_eq_true rfl) ⟨by decide +kernel, by decide +kernel⟩ dX8_byChoice_3 (fun r w' H locs hp hW => ?_)
  obtain ⟨qs, rfl, rfl⟩ := hp
  refine W.eq (g2 := F0 m 6 ls [.ref ((adU ad 59 81 qs) 59)]) rfl ?_
  refine lv_astore_n (lv' := [(2, .ref ((adU ad 59 81 qs) 59)), (0, .ref ((adU ad 59 81 qs) 0)), (1, .int p0)]) hx hb dX8_byChoice_6 rfl hl (by decide) rfl (fun ls hl => ?_)
  refine lv_aload_n hx hb dX8_byChoice_7 rfl (lv_at hl 1 rfl) ?_
  refine wd_get hC i8 hW 0 wC_c0 rfl 4 (Nat.le_of_ble_eq_true rfl) f38 rfl rfl dX8_byChoice_8 ?_
  refine lv_aload_n hx hb dX8_byChoice_11 rfl (lv_at hl 1 rfl) ?_
  refine wd_get hC i8 hW 0 wC_c0 rfl 2 (Nat.le_of_ble_eq_true rfl) f28 rfl rfl dX8_byChoice_12 ?_
  refine lv_iload_n hx hb dX8_byChoice_15 rfl (lv_at hl 2 rfl) ?_
  obtain ⟨r3, hr4, h⟩ := bd_of h
  refine wd_callV0 (As := [.ref ((adU ad 59 81 qs) 25), .int p0]) hC hW 43 wC_c43 rfl (c_X5_look l D cy (adU ad 59 81 qs) (wF (adU ad 59 81 qs) cy r1.2 ++ X) r1.1 p0 r3 hr4) (cwV 2 hts (gu_V w_26_4 w_26_1 w_26_2 w_26_3 w_2_4) rfl rfl rfl hdX5_look ⟨Nat.le_of_ble_eq_true rfl, Nat.le_of_ble_eq_true rfl⟩) rfl hl.1 rfl (Nat.le_of_ble_eq_true rfl) ⟨Nat.le_of_ble_eq_true rfl, Nat.le_of_ble_eq_true rfl⟩ dX8_byChoice_16 (fun H locs hW => ?_)
  refine lv_aload_n hx hb dX8_byChoice_19 rfl (lv_at hl 1 rfl) ?_
  refine wd_get hC i8 hW 0 wC_c0 rfl 4 (Nat.le_of_ble_eq_true rfl) f38 rfl rfl dX8_byChoice_20 ?_
  obtain ⟨r5, hr6, h⟩ := bd_of h
  refine wd_callV1 (As := []) hC hW 43 wC_c43 rfl (c_X5_findTry l D cy (adU ad 59 81 qs) (wF (adU ad 59 81 qs) cy r1.2 ++ X) n r3 r5 hr6) (cwV 0 hts (gu_V w_36_14 w_36_11 w_36_12 w_36_13 w_2_4) rfl rfl rfl hdX5_findTry ⟨Nat.le_of_ble_eq_true rfl, Nat.le_of_ble_eq_true rfl⟩) rfl hl.1 rfl (Nat.le_of_ble_eq_true rfl) ⟨Nat.le_of_ble_eq_true rfl, Nat.le_of_ble_eq_true rfl⟩ dX8_byChoice_23 (fun H locs hW => ?_)
  refine lv_pop hx hb dX8_byChoice_26 rfl ?_
  refine lv_aload_n hx hb dX8_byChoice_27 rfl (lv_at hl 0 rfl) ?_
  refine lv_aload_n hx hb dX8_byChoice_28 rfl (lv_at hl 1 rfl) ?_
  refine wd_get hC i8 hW 0 wC_c0 rfl 4 (Nat.le_of_ble_eq_true rfl) f38 rfl rfl dX8_byChoice_29 ?_
  obtain ⟨r7, hr8, h⟩ := bd_of h
  refine wd_callV1 (As := [.ref ((adU ad 59 81 qs) 43)]) hC hW 59 wF_c59 rfl (c_X2_valueFrom l D cy (adU ad 59 81 qs) X n r5.2 r1.2 r7 hr8) (cwV 1 hts (gu_V w_36_22 w_36_19 w_36_20 w_36_21 w_35_6) rfl rfl rfl hdX2_valueFrom ⟨Nat.le_of_ble_eq_true rfl, Nat.le_of_ble_eq_true rfl⟩) rfl hl.1 rfl (Nat.le_of_ble_eq_true rfl) ⟨Nat.le_of_ble_eq_true rfl, Nat.le_of_ble_eq_true rfl⟩ dX8_byChoice_32 (fun H locs hW => ?_)
  refine lv_istore_n (lv' := [(3, .int r7.1), (2, .ref ((adU ad 59 81 qs) 59)), (0, .ref ((adU ad 59 81 qs) 0)), (1, .int p0)]) hx hb dX8_byChoice_35 rfl hl (by decide) rfl (fun ls hl => ?_)
  refine lv_aload_n hx hb dX8_byChoice_36 rfl (lv_at hl 1 rfl) ?_
  refine wd_get hC i2 hW 59 wF_c59 rfl 0 (Nat.le_of_ble_eq_true rfl) f245 rfl rfl dX8_byChoice_37 ?_
  refine lv_istore (lv' := [(4, .int (r7.2.1 62)), (3, .int r7.1), (2, .ref ((adU ad 59 81 qs) 59)), (0, .ref ((adU ad 59 81 qs) 0)), (1, .int p0)]) hx hb dX8_byChoice_40 hl (by decide) rfl (fun ls hl => ?_)
  refine lv_aload_n hx hb dX8_byChoice_42 rfl (lv_at hl 3 rfl) ?_
  refine lv_iload hx hb dX8_byChoice_43 (lv_at hl 0 rfl) ?_
  refine lv_aload_n hx hb dX8_byChoice_45 rfl (lv_at hl 3 rfl) ?_
  refine lv_iload_n hx hb dX8_byChoice_46 rfl (lv_at hl 4 rfl) ?_
  obtain ⟨r9, hr10, h⟩ := bd_of h
  refine wd_callV1 (As := [.int p0]) hC hW 0 wC_c0 rfl (c_X8_byPlan l D cy (adU ad 59 81 qs) (wF (adU ad 59 81 qs) cy r7.2 ++ X) n r5.2 p0 r9 hr10) (cwV 1 hts (gu_V w_25_16 w_25_13 w_25_14 w_25_15 w_1_2) rfl rfl rfl hdX8_byPlan ⟨Nat.le_of_ble_eq_true rfl, Nat.le_of_ble_eq_true rfl⟩) rfl hl.1 rfl (Nat.le_of_ble_eq_true rfl) ⟨Nat.le_of_ble_eq_true rfl, Nat.le_of_ble_eq_true rfl⟩ dX8_byChoice_47 (fun H locs hW => ?_)
  obtain ⟨r11, hr12, h⟩ := bd_of h
  refine wd_callV0 (As := [.int (r7.2.1 62), .int r9.1]) hC hW 0 wC_c0 rfl (c_X8_tellTwo l D cy (adU ad 59 81 qs) (wF (adU ad 59 81 qs) cy r7.2 ++ X) r9.2 (r7.2.1 62) r9.1 r11 hr12) (cwV 2 hts (gu_V w_18_21 w_18_18 w_18_19 w_18_20 w_1_2) rfl rfl rfl hdX8_tellTwo ⟨Nat.le_of_ble_eq_true rfl, Nat.le_of_ble_eq_true rfl⟩) rfl hl.1 rfl (Nat.le_of_ble_eq_true rfl) ⟨Nat.le_of_ble_eq_true rfl, Nat.le_of_ble_eq_true rfl⟩ dX8_byChoice_50 (fun H locs hW => ?_)
  refine lv_iload_n hx hb dX8_byChoice_53 rfl (lv_at hl 1 rfl) ?_
  obtain rfl := Option.some.inj h
  exact wa_iret hA hQ hC hr hk hW ⟨rfl, qs, rfl⟩ (by decide +kernel) (by decide +kernel) dX8_byChoice_54
def m_X8_heavyB (n : Nat) (S : St) (p0 : Int32) : Option (Int32 × St × Option St) :=
  (m_X8_isLifter S p0).bind (fun r1 => if r1 = 0 then (some ((-1), S, none)) else ((m_X0_beMass n S).bind (fun r4 => (m_X8_byChoiceB n r4 p0).bind (fun r6 => some (r6.1, r6.2.1, some r6.2.2)))))
set_option maxHeartbeats 8000000 in
set_option maxRecDepth 100000 in
theorem c_X8_heavyB (l : Launch) (D : va_G) (cy : Nat → ClassId) (ad : Nat → Nat) (X : va_W) (n : Nat) (S : St) (p0 : Int32) (r : (Int32 × St × Option St)) (h : m_X8_heavyB n S p0 = some r) : CTa l yX8_heavy (wu yX8_heavy cX8_heavy 2 (some .int)) 45 22 3306 D cy [.ref (ad 0), .int p0] (wC ad cy S ++ X) (fun v w' => v = some (.int r.1) ∧ ((r.2.2 = none ∧ w' = wC ad cy r.2.1 ++ X) ∨ ∃ (f : St) (qs : List Nat), r.2.2 = some f ∧ w' = wC (adU ad 59 81 qs) cy r.2.1 ++ (wF (adU ad 59 81 qs) cy f ++ X))) := by
  refine CTa.mk (cc := cX8_heavy) (maxL := 2) (ret := (some .int)) (own := RX8) (by decide) rfl rfl (Nat.le_of_ble_eq_true rfl) ?_
  intro p e s m args below meth c ls A Q hA hQ hC hr hk hnm hW hl
  have hx := hC.1
  have hb := hC.2.1
  have hown := hC.2.2.2.1
  have hts := hC.2.2.2.2
  have hl : lv_has ls 2 [(0, .ref (ad 0)), (1, .int p0)] := hl
  have f45 := hts _ (wu_in w_2_9)
  have i8 := (fun w h => wu_in (inc_8 w h) : ∀ w ∈ u_ws RX8 TX8 12, w ∈ (wu yX8_heavy cX8_heavy 2 (some .int)))
  unfold m_X8_heavyB at h
  refine lv_aload_n hx hb dX8_heavy_0 rfl (lv_at hl 0 rfl) ?_
  refine lv_iload_n hx hb dX8_heavy_1 rfl (lv_at hl 1 rfl) ?_
  obtain ⟨r1, hr2, h⟩ := bd_of h
  refine wd_callV1 (As := [.int p0]) hC hW 0 wC_c0 rfl (c_X8_isLifter l D cy ad X S p0 r1 hr2) (cwV 1 hts (gu_V w_13_9 w_13_6 w_13_7 w_13_8 w_1_2) rfl rfl rfl hdX8_isLifter ⟨Nat.le_of_ble_eq_true rfl, Nat.le_of_ble_eq_true rfl⟩) rfl hl.1 rfl (Nat.le_of_ble_eq_true rfl) ⟨Nat.le_of_ble_eq_true rfl, Nat.le_of_ble_eq_true rfl⟩ dX8_heavy_2 (fun H locs hW => ?_)
  refine lv_if_ne (tgt := 10) hx hb dX8_heavy_5 (by decide) (fun c3 => ?_) (fun c3 => ?_)
  · replace h := ite_f h c3
    refine lv_aload_n hx hb dX8_heavy_10 rfl (lv_at hl 0 rfl) ?_
    refine wd_get hC i8 hW 0 wC_c0 rfl 5 (Nat.le_of_ble_eq_true rfl) f45 rfl rfl dX8_heavy_11 ?_
    obtain ⟨r4, hr5, h⟩ := bd_of h
    refine wd_callV0 (As := []) hC hW 44 wC_c44 rfl (c_X0_beMass l D cy ad X n S r4 hr5) (cwV 0 hts (gu_V w_25_12 w_25_9 w_25_10 w_25_11 w_2_8) rfl rfl rfl hdX0_beMass ⟨Nat.le_of_ble_eq_true rfl, Nat.le_of_ble_eq_true rfl⟩) rfl hl.1 rfl (Nat.le_of_ble_eq_true rfl) ⟨Nat.le_of_ble_eq_true rfl, Nat.le_of_ble_eq_true rfl⟩ dX8_heavy_14 (fun H locs hW => ?_)
    refine lv_aload_n hx hb dX8_heavy_17 rfl (lv_at hl 0 rfl) ?_
    refine lv_iload_n hx hb dX8_heavy_18 rfl (lv_at hl 1 rfl) ?_
    obtain ⟨r6, hr7, h⟩ := bd_of h
    refine wa_callV (As := [.int p0]) hC hW 0 wC_c0 rfl (c_X8_byChoiceB l D cy ad X n r4 p0 r6 hr7) (cwV 1 hts (gu_V w_34_22 w_34_19 w_34_20 w_34_21 w_1_2) rfl rfl rfl hdX8_byChoice ⟨Nat.le_of_ble_eq_true rfl, Nat.le_of_ble_eq_true rfl⟩) rfl hl.1 rfl (Nat.le_of_ble_eq_true rfl) ⟨by decide +kernel, by decide +kernel⟩ dX8_heavy_19 (fun r w' H locs hp hW => ?_)
    obtain ⟨rfl, qs, rfl⟩ := hp
    refine W.eq (g2 := F0 m 22 ls [.int r6.1]) rfl ?_
    obtain rfl := Option.some.inj h
    exact wa_iret hA hQ hC hr hk hW ⟨rfl, Or.inr ⟨_, qs, rfl, rfl⟩⟩ (by decide +kernel) (by decide +kernel) dX8_heavy_22
  · replace h := ite_t h c3
    refine lv_iconst (v := (-1)) hx hb dX8_heavy_8 (by decide) ?_
    obtain rfl := Option.some.inj h
    exact wa_iret hA hQ hC hr hk hW ⟨rfl, Or.inl ⟨rfl, rfl⟩⟩ (by decide +kernel) (by decide +kernel) dX8_heavy_9
def m_X8_reachB (n : Nat) (S : St) (p0 : Int32) (p1 : Int32) : Option (Int32 × St × Option St) :=
  (m_X8_isLifter S p0).bind (fun r1 => if r1 = 0 then (some ((-1), S, none)) else ((m_X8_isAimed S p1).bind (fun r4 => if r4 = 0 then (some ((-1), S, none)) else ((m_X0_beReach n S p1).bind (fun r7 => (m_X8_byChoiceB n r7 p0).bind (fun r9 => some (r9.1, r9.2.1, some r9.2.2)))))))
set_option maxHeartbeats 8000000 in
set_option maxRecDepth 100000 in
theorem c_X8_reachB (l : Launch) (D : va_G) (cy : Nat → ClassId) (ad : Nat → Nat) (X : va_W) (n : Nat) (S : St) (p0 : Int32) (p1 : Int32) (r : (Int32 × St × Option St)) (h : m_X8_reachB n S p0 p1 = some r) : CTa l yX8_reach (wu yX8_reach cX8_reach 3 (some .int)) 45 22 3306 D cy [.ref (ad 0), .int p0, .int p1] (wC ad cy S ++ X) (fun v w' => v = some (.int r.1) ∧ ((r.2.2 = none ∧ w' = wC ad cy r.2.1 ++ X) ∨ ∃ (f : St) (qs : List Nat), r.2.2 = some f ∧ w' = wC (adU ad 59 81 qs) cy r.2.1 ++ (wF (adU ad 59 81 qs) cy f ++ X))) := by
  refine CTa.mk (cc := cX8_reach) (maxL := 3) (ret := (some .int)) (own := RX8) (by decide) rfl rfl (Nat.le_of_ble_eq_true rfl) ?_
  intro p e s m args below meth c ls A Q hA hQ hC hr hk hnm hW hl
  have hx := hC.1
  have hb := hC.2.1
  have hown := hC.2.2.2.1
  have hts := hC.2.2.2.2
  have hl : lv_has ls 3 [(0, .ref (ad 0)), (1, .int p0), (2, .int p1)] := hl
  have f45 := hts _ (wu_in w_2_9)
  have i8 := (fun w h => wu_in (inc_8 w h) : ∀ w ∈ u_ws RX8 TX8 12, w ∈ (wu yX8_reach cX8_reach 3 (some .int)))
  unfold m_X8_reachB at h
  refine lv_aload_n hx hb dX8_reach_0 rfl (lv_at hl 0 rfl) ?_
  refine lv_iload_n hx hb dX8_reach_1 rfl (lv_at hl 1 rfl) ?_
  obtain ⟨r1, hr2, h⟩ := bd_of h
  refine wd_callV1 (As := [.int p0]) hC hW 0 wC_c0 rfl (c_X8_isLifter l D cy ad X S p0 r1 hr2) (cwV 1 hts (gu_V w_13_9 w_13_6 w_13_7 w_13_8 w_1_2) rfl rfl rfl hdX8_isLifter ⟨Nat.le_of_ble_eq_true rfl, Nat.le_of_ble_eq_true rfl⟩) rfl hl.1 rfl (Nat.le_of_ble_eq_true rfl) ⟨Nat.le_of_ble_eq_true rfl, Nat.le_of_ble_eq_true rfl⟩ dX8_reach_2 (fun H locs hW => ?_)
  refine lv_if_eq (tgt := 15) hx hb dX8_reach_5 (by decide) (fun c3 => ?_) (fun c3 => ?_)
  · replace h := ite_t h c3
    refine lv_iconst (v := (-1)) hx hb dX8_reach_15 (by decide) ?_
    obtain rfl := Option.some.inj h
    exact wa_iret hA hQ hC hr hk hW ⟨rfl, Or.inl ⟨rfl, rfl⟩⟩ (by decide +kernel) (by decide +kernel) dX8_reach_16
  · replace h := ite_f h c3
    refine lv_iload_n hx hb dX8_reach_8 rfl (lv_at hl 2 rfl) ?_
    obtain ⟨r4, hr5, h⟩ := bd_of h
    refine wd_callS1 (As := [.int p1]) hC hW (c_X8_isAimed l D cy ad X S p1 r4 hr5) (va_cwS 1 hts (gu_S w_29_14 w_29_12 w_29_13 w_1_2) rfl rfl rfl hdX8_isAimed ⟨Nat.le_of_ble_eq_true rfl, Nat.le_of_ble_eq_true rfl⟩) rfl hl.1 rfl (Nat.le_of_ble_eq_true rfl) ⟨Nat.le_of_ble_eq_true rfl, Nat.le_of_ble_eq_true rfl⟩ dX8_reach_9 (fun H locs hW => ?_)
    refine lv_if_ne (tgt := 17) hx hb dX8_reach_12 (by decide) (fun c6 => ?_) (fun c6 => ?_)
    · replace h := ite_f h c6
      refine lv_aload_n hx hb dX8_reach_17 rfl (lv_at hl 0 rfl) ?_
      refine wd_get hC i8 hW 0 wC_c0 rfl 5 (Nat.le_of_ble_eq_true rfl) f45 rfl rfl dX8_reach_18 ?_
      refine lv_iload_n hx hb dX8_reach_21 rfl (lv_at hl 2 rfl) ?_
      obtain ⟨r7, hr8, h⟩ := bd_of h
      refine wd_callV0 (As := [.int p1]) hC hW 44 wC_c44 rfl (c_X0_beReach l D cy ad X n S p1 r7 hr8) (cwV 1 hts (gu_V w_29_18 w_29_15 w_29_16 w_29_17 w_2_8) rfl rfl rfl hdX0_beReach ⟨Nat.le_of_ble_eq_true rfl, Nat.le_of_ble_eq_true rfl⟩) rfl hl.1 rfl (Nat.le_of_ble_eq_true rfl) ⟨Nat.le_of_ble_eq_true rfl, Nat.le_of_ble_eq_true rfl⟩ dX8_reach_22 (fun H locs hW => ?_)
      refine lv_aload_n hx hb dX8_reach_25 rfl (lv_at hl 0 rfl) ?_
      refine lv_iload_n hx hb dX8_reach_26 rfl (lv_at hl 1 rfl) ?_
      obtain ⟨r9, hr10, h⟩ := bd_of h
      refine wa_callV (As := [.int p0]) hC hW 0 wC_c0 rfl (c_X8_byChoiceB l D cy ad X n r7 p0 r9 hr10) (cwV 1 hts (gu_V w_34_22 w_34_19 w_34_20 w_34_21 w_1_2) rfl rfl rfl hdX8_byChoice ⟨Nat.le_of_ble_eq_true rfl, Nat.le_of_ble_eq_true rfl⟩) rfl hl.1 rfl (Nat.le_of_ble_eq_true rfl) ⟨by decide +kernel, by decide +kernel⟩ dX8_reach_27 (fun r w' H locs hp hW => ?_)
      obtain ⟨rfl, qs, rfl⟩ := hp
      refine W.eq (g2 := F0 m 30 ls [.int r9.1]) rfl ?_
      obtain rfl := Option.some.inj h
      exact wa_iret hA hQ hC hr hk hW ⟨rfl, Or.inr ⟨_, qs, rfl, rfl⟩⟩ (by decide +kernel) (by decide +kernel) dX8_reach_30
    · replace h := ite_t h c6
      refine lv_iconst (v := (-1)) hx hb dX8_reach_15 (by decide) ?_
      obtain rfl := Option.some.inj h
      exact wa_iret hA hQ hC hr hk hW ⟨rfl, Or.inl ⟨rfl, rfl⟩⟩ (by decide +kernel) (by decide +kernel) dX8_reach_16
def m_X8_aimB_L39 : Nat → St → St → Int32 → Int32 → Int32 → Int32 → Int32 → Option (St × St × Int32 × Int32)
  | 0, _, _, _, _, _, _, _ => none
  | n + 1, S, F, x1, x2, x4, x5, x6 =>
    if x6 ≤ 0 then (some (S, F, x4, x5)) else (if 120 < (x4 + x6) then (m_X8_aimB_L39 n S F x1 x2 x4 x5 (x6 / 2)) else ((m_X5_look S x1).bind (fun r12 => nm (sI r12 52 ((r12.1 52) + (121 - (x4 + x6)))) (fun S14 => (m_X2_valueFrom n S14 F).bind (fun r16 => if r16.1 < x2 then (m_X8_aimB_L39 n S14 r16.2 x1 x2 x4 x5 (x6 / 2)) else (m_X8_aimB_L39 n S14 r16.2 x1 x2 (x4 + x6) r16.1 (x6 / 2)))))))
theorem m_X8_aimB_L39_0 (S : St) (F : St) (x1 : Int32) (x2 : Int32) (x4 : Int32) (x5 : Int32) (x6 : Int32) : m_X8_aimB_L39 0 S F x1 x2 x4 x5 x6 = none := rfl
theorem m_X8_aimB_L39_s {n : Nat} {S : St} {F : St} {x1 : Int32} {x2 : Int32} {x4 : Int32} {x5 : Int32} {x6 : Int32} : m_X8_aimB_L39 (n + 1) S F x1 x2 x4 x5 x6 =
    (if x6 ≤ 0 then (some (S, F, x4, x5)) else (if 120 < (x4 + x6) then (m_X8_aimB_L39 n S F x1 x2 x4 x5 (x6 / 2)) else ((m_X5_look S x1).bind (fun r12 => nm (sI r12 52 ((r12.1 52) + (121 - (x4 + x6)))) (fun S14 => (m_X2_valueFrom n S14 F).bind (fun r16 => if r16.1 < x2 then (m_X8_aimB_L39 n S14 r16.2 x1 x2 x4 x5 (x6 / 2)) else (m_X8_aimB_L39 n S14 r16.2 x1 x2 (x4 + x6) r16.1 (x6 / 2)))))))) := rfl
def m_X8_aimB (n : Nat) (S : St) (p0 : Int32) (p1 : Int32) : Option (Int32 × St × Option St) :=
  (m_X8_isLifter S p0).bind (fun r1 => if r1 = 0 then (some ((-1), S, none)) else (if p1 < 1 then (some ((-1), S, none)) else (if p1 ≤ 1000000 then ((m_X8_thinkFreelyB n S p0 1).bind (fun r6 => (m_X8_aimB_L39 n r6.1 r6.2 p0 p1 0 1000000 64).bind (fun q8 => ck 0 9 (nm (sJ q8.1 58 ((0 : Int32).toNatClampNeg) q8.2.2.2.toInt64) (fun S20 => nm (sI S20 0 1) (fun S22 => some (q8.2.2.1, S22, some q8.2.1))))))) else (some ((-1), S, none)))))
set_option maxHeartbeats 8000000 in
set_option maxRecDepth 100000 in
theorem c_X8_aimB (l : Launch) (D : va_G) (cy : Nat → ClassId) (ad : Nat → Nat) (X : va_W) (n : Nat) (S : St) (p0 : Int32) (p1 : Int32) (r : (Int32 × St × Option St)) (h : m_X8_aimB n S p0 p1 = some r) : CTa l yX8_aim (wu yX8_aim cX8_aim 9 (some .int)) 29 22 3306 D cy [.ref (ad 0), .int p0, .int p1] (wC ad cy S ++ X) (fun v w' => v = some (.int r.1) ∧ ((r.2.2 = none ∧ w' = wC ad cy r.2.1 ++ X) ∨ ∃ (f : St) (qs : List Nat), r.2.2 = some f ∧ w' = wC (adU ad 59 81 qs) cy r.2.1 ++ (wF (adU ad 59 81 qs) cy f ++ X))) := by
  refine CTa.mk (cc := cX8_aim) (maxL := 9) (ret := (some .int)) (own := RX8) (by decide) rfl rfl (Nat.le_of_ble_eq_true rfl) ?_
  intro p e s m args below meth c ls A Q hA hQ hC hr hk hnm hW hl
  have hx := hC.1
  have hb := hC.2.1
  have hown := hC.2.2.2.1
  have hts := hC.2.2.2.2
  have hl : lv_has ls 9 [(0, .ref (ad 0)), (1, .int p0), (2, .int p1)] := hl
  have k213 := hts _ (wu_in w_30_22)
  have f38 := hts _ (wu_in w_2_5)
  have i8 := (fun w h => wu_in (inc_8 w h) : ∀ w ∈ u_ws RX8 TX8 12, w ∈ (wu yX8_aim cX8_aim 9 (some .int)))
  have f28 := hts _ (wu_in w_2_0)
  have f229 := hts _ (wu_in w_30_21)
  have i5 := (fun w h => wu_in (inc_5 w h) : ∀ w ∈ u_ws RX5 TX5 8, w ∈ (wu yX8_aim cX8_aim 9 (some .int)))
  have f61 := hts _ (wu_in w_2_17)
  have f65 := hts _ (wu_in w_2_18)
  unfold m_X8_aimB at h
  refine lv_aload_n hx hb dX8_aim_0 rfl (lv_at hl 0 rfl) ?_
  refine lv_iload_n hx hb dX8_aim_1 rfl (lv_at hl 1 rfl) ?_
  obtain ⟨r1, hr2, h⟩ := bd_of h
  refine wd_callV1 (As := [.int p0]) hC hW 0 wC_c0 rfl (c_X8_isLifter l D cy ad X S p0 r1 hr2) (cwV 1 hts (gu_V w_13_9 w_13_6 w_13_7 w_13_8 w_1_2) rfl rfl rfl hdX8_isLifter ⟨Nat.le_of_ble_eq_true rfl, Nat.le_of_ble_eq_true rfl⟩) rfl hl.1 rfl (Nat.le_of_ble_eq_true rfl) ⟨Nat.le_of_ble_eq_true rfl, Nat.le_of_ble_eq_true rfl⟩ dX8_aim_2 (fun H locs hW => ?_)
  refine lv_if_eq (tgt := 19) hx hb dX8_aim_5 (by decide) (fun c3 => ?_) (fun c3 => ?_)
  · replace h := ite_t h c3
    refine lv_iconst (v := (-1)) hx hb dX8_aim_19 (by decide) ?_
    obtain rfl := Option.some.inj h
    exact wa_iret hA hQ hC hr hk hW ⟨rfl, Or.inl ⟨rfl, rfl⟩⟩ (by decide +kernel) (by decide +kernel) dX8_aim_20
  · replace h := ite_f h c3
    refine lv_iload_n hx hb dX8_aim_8 rfl (lv_at hl 2 rfl) ?_
    refine lv_iconst (v := 1) hx hb dX8_aim_9 (by decide) ?_
    refine lv_icmp_lt (tgt := 19) hx hb dX8_aim_10 (by decide) (fun c4 => ?_) (fun c4 => ?_)
    · replace h := ite_t h c4
      refine lv_iconst (v := (-1)) hx hb dX8_aim_19 (by decide) ?_
      obtain rfl := Option.some.inj h
      exact wa_iret hA hQ hC hr hk hW ⟨rfl, Or.inl ⟨rfl, rfl⟩⟩ (by decide +kernel) (by decide +kernel) dX8_aim_20
    · replace h := ite_f h c4
      refine lv_iload_n hx hb dX8_aim_13 rfl (lv_at hl 2 rfl) ?_
      refine lv_ldc hx hb hown k213 dX8_aim_14 ?_
      refine lv_icmp_le (tgt := 21) hx hb dX8_aim_16 (by decide) (fun c5 => ?_) (fun c5 => ?_)
      · replace h := ite_t h c5
        refine lv_aload_n hx hb dX8_aim_21 rfl (lv_at hl 0 rfl) ?_
        refine lv_iload_n hx hb dX8_aim_22 rfl (lv_at hl 1 rfl) ?_
        refine lv_iconst (v := 1) hx hb dX8_aim_23 (by decide) ?_
        obtain ⟨r6, hr7, h⟩ := bd_of h
        refine wa_callV (As := [.int p0, .int 1]) hC hW 0 wC_c0 rfl (c_X8_thinkFreelyB l D cy ad X n S p0 1 r6 hr7) (cwV 2 hts (gu_V w_35_3 w_35_0 w_35_1 w_35_2 w_1_2) rfl rfl rfl hdX8_thinkFreely ⟨Nat.le_of_ble_eq_true rfl, Nat.le_of_ble_eq_true rfl⟩) rfl hl.1 rfl (Nat.le_of_ble_eq_true rfl) ⟨by decide +kernel, by decide +kernel⟩ dX8_aim_24 (fun r w' H locs hp hW => ?_)
        obtain ⟨qs, rfl, rfl⟩ := hp
        refine W.eq (g2 := F0 m 27 ls [.ref ((adU ad 59 81 qs) 59)]) rfl ?_
        refine lv_astore_n (lv' := [(3, .ref ((adU ad 59 81 qs) 59)), (0, .ref ((adU ad 59 81 qs) 0)), (1, .int p0), (2, .int p1)]) hx hb dX8_aim_27 rfl hl (by decide) rfl (fun ls hl => ?_)
        refine lv_iconst (v := 0) hx hb dX8_aim_28 (by decide) ?_
        refine lv_istore (lv' := [(4, .int 0), (3, .ref ((adU ad 59 81 qs) 59)), (0, .ref ((adU ad 59 81 qs) 0)), (1, .int p0), (2, .int p1)]) hx hb dX8_aim_29 hl (by decide) rfl (fun ls hl => ?_)
        refine lv_ldc hx hb hown k213 dX8_aim_31 ?_
        refine lv_istore (lv' := [(5, .int 1000000), (4, .int 0), (3, .ref ((adU ad 59 81 qs) 59)), (0, .ref ((adU ad 59 81 qs) 0)), (1, .int p0), (2, .int p1)]) hx hb dX8_aim_33 hl (by decide) rfl (fun ls hl => ?_)
        refine lv_bipush (v := 64) hx hb dX8_aim_35 (by decide) ?_
        refine lv_istore (lv' := [(6, .int 64), (5, .int 1000000), (4, .int 0), (3, .ref ((adU ad 59 81 qs) 59)), (0, .ref ((adU ad 59 81 qs) 0)), (1, .int p0), (2, .int p1)]) hx hb dX8_aim_37 hl (by decide) rfl (fun ls hl => ?_)
        have hL39 : ∀ (n : Nat) (S : St) (F : St) (x1 : Int32) (x2 : Int32) (x4 : Int32) (x5 : Int32) (x6 : Int32)  (H : Heap) (locs : List Loc) (ls : Array Slot) (r : (St × St × Int32 × Int32)), m_X8_aimB_L39 n S F x1 x2 x4 x5 x6 = some r → Wd D cy A s (wC (adU ad 59 81 qs) cy S ++ (wF (adU ad 59 81 qs) cy F ++ X)) H locs → lv_has ls 9 [(0, .ref ((adU ad 59 81 qs) 0)), (1, .int x1), (2, .int x2), (3, .ref ((adU ad 59 81 qs) 59)), (4, .int x4), (5, .int x5), (6, .int x6)] → (∀ (H : Heap) (locs : List Loc) (ls : Array Slot), Wd D cy A s (wC (adU ad 59 81 qs) cy r.1 ++ (wF (adU ad 59 81 qs) cy r.2.1 ++ X)) H locs → lv_has ls 9 [(0, .ref ((adU ad 59 81 qs) 0)), (1, .int x1), (2, .int x2), (3, .ref ((adU ad 59 81 qs) 59)), (4, .int r.2.2.1), (5, .int r.2.2.2)] → W p l e (RMa 29 22 3306) s m args below meth c H locs 22 3306 Q (F0 m 120 ls [])) → W p l e (RMa 29 22 3306) s m args below meth c H locs 22 3306 Q (F0 m 39 ls []) := by
          intro n
          induction n with
          | zero =>
            intro S F x1 x2 x4 x5 x6  H locs ls r h
            exact absurd (h.symm.trans (m_X8_aimB_L39_0 ..)) (by simp)
          | succ n ih =>
            intro S F x1 x2 x4 x5 x6  H locs ls r h hW hl kk
            rw [m_X8_aimB_L39_s] at h
            refine lv_iload hx hb dX8_aim_39 (lv_at hl 6 rfl) ?_
            refine lv_if_le (tgt := 120) hx hb dX8_aim_41 (by decide) (fun c10 => ?_) (fun c10 => ?_)
            · replace h := ite_t h c10
              obtain rfl := Option.some.inj h
              exact kk _ _ _ hW (lv_sub hl [0, 1, 2, 3, 4, 5] rfl)
            · replace h := ite_f h c10
              refine lv_iload hx hb dX8_aim_44 (lv_at hl 4 rfl) ?_
              refine lv_iload hx hb dX8_aim_46 (lv_at hl 6 rfl) ?_
              refine lv_iadd hx hb dX8_aim_48 ?_
              refine lv_istore (lv' := [(7, .int (x4 + x6)), (0, .ref ((adU ad 59 81 qs) 0)), (1, .int x1), (2, .int x2), (3, .ref ((adU ad 59 81 qs) 59)), (4, .int x4), (5, .int x5), (6, .int x6)]) hx hb dX8_aim_49 hl (by decide) rfl (fun ls hl => ?_)
              refine lv_iload hx hb dX8_aim_51 (lv_at hl 0 rfl) ?_
              refine lv_bipush (v := 120) hx hb dX8_aim_53 (by decide) ?_
              refine lv_icmp_gt (tgt := 111) hx hb dX8_aim_55 (by decide) (fun c11 => ?_) (fun c11 => ?_)
              · replace h := ite_t h c11
                refine lv_iload hx hb dX8_aim_111 (lv_at hl 7 rfl) ?_
                refine lv_iconst (v := 2) hx hb dX8_aim_113 (by decide) ?_
                refine lv_idiv hx hb dX8_aim_114 (by decide) ?_
                refine lv_istore (lv' := [(6, .int (x6 / 2)), (7, .int (x4 + x6)), (0, .ref ((adU ad 59 81 qs) 0)), (1, .int x1), (2, .int x2), (3, .ref ((adU ad 59 81 qs) 59)), (4, .int x4), (5, .int x5)]) hx hb dX8_aim_115 hl (by decide) rfl (fun ls hl => ?_)
                refine lv_goto (tgt := 39) hx hb dX8_aim_117 (by decide) ?_
                exact ih S F x1 x2 x4 x5 (x6 / 2) _ _ _ r h hW (lv_sub hl [2, 3, 4, 5, 6, 7, 0] rfl) kk
              · replace h := ite_f h c11
                refine lv_aload_n hx hb dX8_aim_58 rfl (lv_at hl 1 rfl) ?_
                refine wd_get hC i8 hW 0 wC_c0 rfl 4 (Nat.le_of_ble_eq_true rfl) f38 rfl rfl dX8_aim_59 ?_
                refine lv_aload_n hx hb dX8_aim_62 rfl (lv_at hl 1 rfl) ?_
                refine wd_get hC i8 hW 0 wC_c0 rfl 2 (Nat.le_of_ble_eq_true rfl) f28 rfl rfl dX8_aim_63 ?_
                refine lv_iload_n hx hb dX8_aim_66 rfl (lv_at hl 2 rfl) ?_
                obtain ⟨r12, hr13, h⟩ := bd_of h
                refine wd_callV0 (As := [.ref ((adU ad 59 81 qs) 25), .int x1]) hC hW 43 wC_c43 rfl (c_X5_look l D cy (adU ad 59 81 qs) (wF (adU ad 59 81 qs) cy F ++ X) S x1 r12 hr13) (cwV 2 hts (gu_V w_26_4 w_26_1 w_26_2 w_26_3 w_2_4) rfl rfl rfl hdX5_look ⟨Nat.le_of_ble_eq_true rfl, Nat.le_of_ble_eq_true rfl⟩) rfl hl.1 rfl (Nat.le_of_ble_eq_true rfl) ⟨Nat.le_of_ble_eq_true rfl, Nat.le_of_ble_eq_true rfl⟩ dX8_aim_67 (fun H locs hW => ?_)
                refine lv_aload_n hx hb dX8_aim_70 rfl (lv_at hl 1 rfl) ?_
                refine wd_get hC i8 hW 0 wC_c0 rfl 4 (Nat.le_of_ble_eq_true rfl) f38 rfl rfl dX8_aim_71 ?_
                refine lv_dup hx hb dX8_aim_74 rfl ?_
                refine wd_get hC i5 hW 43 wC_c43 rfl 2 (Nat.le_of_ble_eq_true rfl) f229 rfl rfl dX8_aim_75 ?_
                refine lv_bipush (v := 121) hx hb dX8_aim_78 (by decide) ?_
                refine lv_iload hx hb dX8_aim_80 (lv_at hl 0 rfl) ?_
                refine lv_isub hx hb dX8_aim_82 ?_
                refine lv_iadd hx hb dX8_aim_83 ?_
                refine wd_put hC i5 tyX5_ok nmX5 hW 43 wC_c43 rfl 2 (Nat.le_of_ble_eq_true rfl) f229 rfl rfl rfl rfl (Nat.le_of_ble_eq_true rfl) wC_s43_2 dX8_aim_84 (fun H locs hW => ?_)
                obtain ⟨S14, e15, h⟩ := nm_of h
                replace hW := wq_S e15 hW
                refine lv_aload_n hx hb dX8_aim_87 rfl (lv_at hl 4 rfl) ?_
                refine lv_aload_n hx hb dX8_aim_88 rfl (lv_at hl 1 rfl) ?_
                refine wd_get hC i8 hW 0 wC_c0 rfl 4 (Nat.le_of_ble_eq_true rfl) f38 rfl rfl dX8_aim_89 ?_
                obtain ⟨r16, hr17, h⟩ := bd_of h
                refine wd_callV1 (As := [.ref ((adU ad 59 81 qs) 43)]) hC hW 59 wF_c59 rfl (c_X2_valueFrom l D cy (adU ad 59 81 qs) X n S14 F r16 hr17) (cwV 1 hts (gu_V w_36_22 w_36_19 w_36_20 w_36_21 w_35_6) rfl rfl rfl hdX2_valueFrom ⟨Nat.le_of_ble_eq_true rfl, Nat.le_of_ble_eq_true rfl⟩) rfl hl.1 rfl (Nat.le_of_ble_eq_true rfl) ⟨Nat.le_of_ble_eq_true rfl, Nat.le_of_ble_eq_true rfl⟩ dX8_aim_92 (fun H locs hW => ?_)
                refine lv_istore (lv' := [(8, .int r16.1), (7, .int (x4 + x6)), (0, .ref ((adU ad 59 81 qs) 0)), (1, .int x1), (2, .int x2), (3, .ref ((adU ad 59 81 qs) 59)), (4, .int x4), (5, .int x5), (6, .int x6)]) hx hb dX8_aim_95 hl (by decide) rfl (fun ls hl => ?_)
                refine lv_iload hx hb dX8_aim_97 (lv_at hl 0 rfl) ?_
                refine lv_iload_n hx hb dX8_aim_99 rfl (lv_at hl 4 rfl) ?_
                refine lv_icmp_lt (tgt := 111) hx hb dX8_aim_100 (by decide) (fun c18 => ?_) (fun c18 => ?_)
                · replace h := ite_t h c18
                  refine lv_iload hx hb dX8_aim_111 (lv_at hl 8 rfl) ?_
                  refine lv_iconst (v := 2) hx hb dX8_aim_113 (by decide) ?_
                  refine lv_idiv hx hb dX8_aim_114 (by decide) ?_
                  refine lv_istore (lv' := [(6, .int (x6 / 2)), (8, .int r16.1), (7, .int (x4 + x6)), (0, .ref ((adU ad 59 81 qs) 0)), (1, .int x1), (2, .int x2), (3, .ref ((adU ad 59 81 qs) 59)), (4, .int x4), (5, .int x5)]) hx hb dX8_aim_115 hl (by decide) rfl (fun ls hl => ?_)
                  refine lv_goto (tgt := 39) hx hb dX8_aim_117 (by decide) ?_
                  exact ih S14 r16.2 x1 x2 x4 x5 (x6 / 2) _ _ _ r h hW (lv_sub hl [3, 4, 5, 6, 7, 8, 0] rfl) kk
                · replace h := ite_f h c18
                  refine lv_iload hx hb dX8_aim_103 (lv_at hl 1 rfl) ?_
                  refine lv_istore (lv' := [(4, .int (x4 + x6)), (8, .int r16.1), (7, .int (x4 + x6)), (0, .ref ((adU ad 59 81 qs) 0)), (1, .int x1), (2, .int x2), (3, .ref ((adU ad 59 81 qs) 59)), (5, .int x5), (6, .int x6)]) hx hb dX8_aim_105 hl (by decide) rfl (fun ls hl => ?_)
                  refine lv_iload hx hb dX8_aim_107 (lv_at hl 1 rfl) ?_
                  refine lv_istore (lv' := [(5, .int r16.1), (4, .int (x4 + x6)), (8, .int r16.1), (7, .int (x4 + x6)), (0, .ref ((adU ad 59 81 qs) 0)), (1, .int x1), (2, .int x2), (3, .ref ((adU ad 59 81 qs) 59)), (6, .int x6)]) hx hb dX8_aim_109 hl (by decide) rfl (fun ls hl => ?_)
                  refine lv_iload hx hb dX8_aim_111 (lv_at hl 8 rfl) ?_
                  refine lv_iconst (v := 2) hx hb dX8_aim_113 (by decide) ?_
                  refine lv_idiv hx hb dX8_aim_114 (by decide) ?_
                  refine lv_istore (lv' := [(6, .int (x6 / 2)), (5, .int r16.1), (4, .int (x4 + x6)), (8, .int r16.1), (7, .int (x4 + x6)), (0, .ref ((adU ad 59 81 qs) 0)), (1, .int x1), (2, .int x2), (3, .ref ((adU ad 59 81 qs) 59))]) hx hb dX8_aim_115 hl (by decide) rfl (fun ls hl => ?_)
                  refine lv_goto (tgt := 39) hx hb dX8_aim_117 (by decide) ?_
                  exact ih S14 r16.2 x1 x2 (x4 + x6) r16.1 (x6 / 2) _ _ _ r h hW (lv_sub hl [5, 6, 7, 8, 2, 1, 0] rfl) kk
        obtain ⟨q8, hq9, h⟩ := bd_of h
        refine hL39 n r6.1 r6.2 p0 p1 0 1000000 64  _ _ _ q8 hq9 hW (lv_sub hl [4, 5, 6, 3, 2, 1, 0] rfl) (fun H locs ls hW hl => ?_)
        refine lv_aload_n hx hb dX8_aim_120 rfl (lv_at hl 0 rfl) ?_
        refine wd_get hC i8 hW 0 wC_c0 rfl 8 (Nat.le_of_ble_eq_true rfl) f61 rfl rfl dX8_aim_121 ?_
        refine lv_iconst (v := 0) hx hb dX8_aim_124 (by decide) ?_
        refine lv_iload hx hb dX8_aim_125 (lv_at hl 5 rfl) ?_
        refine lv_i2l (v := q8.2.2.2.toInt64) hx hb dX8_aim_127 rfl ?_
        obtain ⟨hi19, h⟩ := ck_of h
        refine wd_last hC hW 58 wC_c58 hi19 wC_t58 dX8_aim_128 (fun H locs hW => ?_)
        obtain ⟨S20, e21, h⟩ := nm_of h
        replace hW := wq_S e21 hW
        refine lv_aload_n hx hb dX8_aim_129 rfl (lv_at hl 0 rfl) ?_
        refine lv_iconst (v := 1) hx hb dX8_aim_130 (by decide) ?_
        refine wd_put hC i8 tyX8_ok nmX8 hW 0 wC_c0 rfl 9 (Nat.le_of_ble_eq_true rfl) f65 rfl rfl rfl rfl (Nat.le_of_ble_eq_true rfl) wC_s0_9 dX8_aim_131 (fun H locs hW => ?_)
        obtain ⟨S22, e23, h⟩ := nm_of h
        replace hW := wq_S e23 hW
        refine lv_iload hx hb dX8_aim_134 (lv_at hl 4 rfl) ?_
        obtain rfl := Option.some.inj h
        exact wa_iret hA hQ hC hr hk hW ⟨rfl, Or.inr ⟨_, qs, rfl, rfl⟩⟩ (by decide +kernel) (by decide +kernel) dX8_aim_136
      · replace h := ite_f h c5
        refine lv_iconst (v := (-1)) hx hb dX8_aim_19 (by decide) ?_
        obtain rfl := Option.some.inj h
        exact wa_iret hA hQ hC hr hk hW ⟨rfl, Or.inl ⟨rfl, rfl⟩⟩ (by decide +kernel) (by decide +kernel) dX8_aim_20
def m_X8_againstB (n : Nat) (S : St) (p0 : Int32) (p1 : Int32) : Option (Int32 × St × Option St) :=
  (m_X8_isLifter S p0).bind (fun r1 => if r1 = 0 then (some ((-1), S, none)) else ((m_X8_isLifter S p1).bind (fun r4 => if r4 = 0 then (some ((-1), S, none)) else (if p0 = p1 then (some ((-1), S, none)) else ((m_X8_aimToBeat n S p0 p1).bind (fun r8 => (m_X8_byChoiceB n r8 p0).bind (fun r10 => some (r10.1, r10.2.1, some r10.2.2))))))))
set_option maxHeartbeats 8000000 in
set_option maxRecDepth 100000 in
theorem c_X8_againstB (l : Launch) (D : va_G) (cy : Nat → ClassId) (ad : Nat → Nat) (X : va_W) (n : Nat) (S : St) (p0 : Int32) (p1 : Int32) (r : (Int32 × St × Option St)) (h : m_X8_againstB n S p0 p1 = some r) : CTa l yX8_against (wu yX8_against cX8_against 3 (some .int)) 45 22 3306 D cy [.ref (ad 0), .int p0, .int p1] (wC ad cy S ++ X) (fun v w' => v = some (.int r.1) ∧ ((r.2.2 = none ∧ w' = wC ad cy r.2.1 ++ X) ∨ ∃ (f : St) (qs : List Nat), r.2.2 = some f ∧ w' = wC (adU ad 59 81 qs) cy r.2.1 ++ (wF (adU ad 59 81 qs) cy f ++ X))) := by
  refine CTa.mk (cc := cX8_against) (maxL := 3) (ret := (some .int)) (own := RX8) (by decide) rfl rfl (Nat.le_of_ble_eq_true rfl) ?_
  intro p e s m args below meth c ls A Q hA hQ hC hr hk hnm hW hl
  have hx := hC.1
  have hb := hC.2.1
  have hown := hC.2.2.2.1
  have hts := hC.2.2.2.2
  have hl : lv_has ls 3 [(0, .ref (ad 0)), (1, .int p0), (2, .int p1)] := hl
  unfold m_X8_againstB at h
  refine lv_aload_n hx hb dX8_against_0 rfl (lv_at hl 0 rfl) ?_
  refine lv_iload_n hx hb dX8_against_1 rfl (lv_at hl 1 rfl) ?_
  obtain ⟨r1, hr2, h⟩ := bd_of h
  refine wd_callV1 (As := [.int p0]) hC hW 0 wC_c0 rfl (c_X8_isLifter l D cy ad X S p0 r1 hr2) (cwV 1 hts (gu_V w_13_9 w_13_6 w_13_7 w_13_8 w_1_2) rfl rfl rfl hdX8_isLifter ⟨Nat.le_of_ble_eq_true rfl, Nat.le_of_ble_eq_true rfl⟩) rfl hl.1 rfl (Nat.le_of_ble_eq_true rfl) ⟨Nat.le_of_ble_eq_true rfl, Nat.le_of_ble_eq_true rfl⟩ dX8_against_2 (fun H locs hW => ?_)
  refine lv_if_eq (tgt := 21) hx hb dX8_against_5 (by decide) (fun c3 => ?_) (fun c3 => ?_)
  · replace h := ite_t h c3
    refine lv_iconst (v := (-1)) hx hb dX8_against_21 (by decide) ?_
    obtain rfl := Option.some.inj h
    exact wa_iret hA hQ hC hr hk hW ⟨rfl, Or.inl ⟨rfl, rfl⟩⟩ (by decide +kernel) (by decide +kernel) dX8_against_22
  · replace h := ite_f h c3
    refine lv_aload_n hx hb dX8_against_8 rfl (lv_at hl 0 rfl) ?_
    refine lv_iload_n hx hb dX8_against_9 rfl (lv_at hl 2 rfl) ?_
    obtain ⟨r4, hr5, h⟩ := bd_of h
    refine wd_callV1 (As := [.int p1]) hC hW 0 wC_c0 rfl (c_X8_isLifter l D cy ad X S p1 r4 hr5) (cwV 1 hts (gu_V w_13_9 w_13_6 w_13_7 w_13_8 w_1_2) rfl rfl rfl hdX8_isLifter ⟨Nat.le_of_ble_eq_true rfl, Nat.le_of_ble_eq_true rfl⟩) rfl hl.1 rfl (Nat.le_of_ble_eq_true rfl) ⟨Nat.le_of_ble_eq_true rfl, Nat.le_of_ble_eq_true rfl⟩ dX8_against_10 (fun H locs hW => ?_)
    refine lv_if_eq (tgt := 21) hx hb dX8_against_13 (by decide) (fun c6 => ?_) (fun c6 => ?_)
    · replace h := ite_t h c6
      refine lv_iconst (v := (-1)) hx hb dX8_against_21 (by decide) ?_
      obtain rfl := Option.some.inj h
      exact wa_iret hA hQ hC hr hk hW ⟨rfl, Or.inl ⟨rfl, rfl⟩⟩ (by decide +kernel) (by decide +kernel) dX8_against_22
    · replace h := ite_f h c6
      refine lv_iload_n hx hb dX8_against_16 rfl (lv_at hl 1 rfl) ?_
      refine lv_iload_n hx hb dX8_against_17 rfl (lv_at hl 2 rfl) ?_
      refine lv_icmp_ne (tgt := 23) hx hb dX8_against_18 (by decide) (fun c7 => ?_) (fun c7 => ?_)
      · replace h := ite_f h c7
        refine lv_aload_n hx hb dX8_against_23 rfl (lv_at hl 0 rfl) ?_
        refine lv_iload_n hx hb dX8_against_24 rfl (lv_at hl 1 rfl) ?_
        refine lv_iload_n hx hb dX8_against_25 rfl (lv_at hl 2 rfl) ?_
        obtain ⟨r8, hr9, h⟩ := bd_of h
        refine wd_callV0 (As := [.int p0, .int p1]) hC hW 0 wC_c0 rfl (c_X8_aimToBeat l D cy ad X n S p0 p1 r8 hr9) (cwV 2 hts (gu_V w_31_19 w_31_16 w_31_17 w_31_18 w_1_2) rfl rfl rfl hdX8_aimToBeat ⟨Nat.le_of_ble_eq_true rfl, Nat.le_of_ble_eq_true rfl⟩) rfl hl.1 rfl (Nat.le_of_ble_eq_true rfl) ⟨Nat.le_of_ble_eq_true rfl, Nat.le_of_ble_eq_true rfl⟩ dX8_against_26 (fun H locs hW => ?_)
        refine lv_aload_n hx hb dX8_against_29 rfl (lv_at hl 0 rfl) ?_
        refine lv_iload_n hx hb dX8_against_30 rfl (lv_at hl 1 rfl) ?_
        obtain ⟨r10, hr11, h⟩ := bd_of h
        refine wa_callV (As := [.int p0]) hC hW 0 wC_c0 rfl (c_X8_byChoiceB l D cy ad X n r8 p0 r10 hr11) (cwV 1 hts (gu_V w_34_22 w_34_19 w_34_20 w_34_21 w_1_2) rfl rfl rfl hdX8_byChoice ⟨Nat.le_of_ble_eq_true rfl, Nat.le_of_ble_eq_true rfl⟩) rfl hl.1 rfl (Nat.le_of_ble_eq_true rfl) ⟨by decide +kernel, by decide +kernel⟩ dX8_against_31 (fun r w' H locs hp hW => ?_)
        obtain ⟨rfl, qs, rfl⟩ := hp
        refine W.eq (g2 := F0 m 34 ls [.int r10.1]) rfl ?_
        obtain rfl := Option.some.inj h
        exact wa_iret hA hQ hC hr hk hW ⟨rfl, Or.inr ⟨_, qs, rfl, rfl⟩⟩ (by decide +kernel) (by decide +kernel) dX8_against_34
      · replace h := ite_t h c7
        refine lv_iconst (v := (-1)) hx hb dX8_against_21 (by decide) ?_
        obtain rfl := Option.some.inj h
        exact wa_iret hA hQ hC hr hk hW ⟨rfl, Or.inl ⟨rfl, rfl⟩⟩ (by decide +kernel) (by decide +kernel) dX8_against_22
def m_X8_goldB (n : Nat) (S : St) (p0 : Int32) : Option (Int32 × St × Option St) :=
  (m_X8_isLifter S p0).bind (fun r1 => if r1 = 0 then (some ((-1), S, none)) else ((m_X8_aimToWin n S p0).bind (fun r4 => (m_X8_byChoiceB n r4 p0).bind (fun r6 => some (r6.1, r6.2.1, some r6.2.2)))))
set_option maxHeartbeats 8000000 in
set_option maxRecDepth 100000 in
theorem c_X8_goldB (l : Launch) (D : va_G) (cy : Nat → ClassId) (ad : Nat → Nat) (X : va_W) (n : Nat) (S : St) (p0 : Int32) (r : (Int32 × St × Option St)) (h : m_X8_goldB n S p0 = some r) : CTa l yX8_gold (wu yX8_gold cX8_gold 2 (some .int)) 45 22 3306 D cy [.ref (ad 0), .int p0] (wC ad cy S ++ X) (fun v w' => v = some (.int r.1) ∧ ((r.2.2 = none ∧ w' = wC ad cy r.2.1 ++ X) ∨ ∃ (f : St) (qs : List Nat), r.2.2 = some f ∧ w' = wC (adU ad 59 81 qs) cy r.2.1 ++ (wF (adU ad 59 81 qs) cy f ++ X))) := by
  refine CTa.mk (cc := cX8_gold) (maxL := 2) (ret := (some .int)) (own := RX8) (by decide) rfl rfl (Nat.le_of_ble_eq_true rfl) ?_
  intro p e s m args below meth c ls A Q hA hQ hC hr hk hnm hW hl
  have hx := hC.1
  have hb := hC.2.1
  have hown := hC.2.2.2.1
  have hts := hC.2.2.2.2
  have hl : lv_has ls 2 [(0, .ref (ad 0)), (1, .int p0)] := hl
  unfold m_X8_goldB at h
  refine lv_aload_n hx hb dX8_gold_0 rfl (lv_at hl 0 rfl) ?_
  refine lv_iload_n hx hb dX8_gold_1 rfl (lv_at hl 1 rfl) ?_
  obtain ⟨r1, hr2, h⟩ := bd_of h
  refine wd_callV1 (As := [.int p0]) hC hW 0 wC_c0 rfl (c_X8_isLifter l D cy ad X S p0 r1 hr2) (cwV 1 hts (gu_V w_13_9 w_13_6 w_13_7 w_13_8 w_1_2) rfl rfl rfl hdX8_isLifter ⟨Nat.le_of_ble_eq_true rfl, Nat.le_of_ble_eq_true rfl⟩) rfl hl.1 rfl (Nat.le_of_ble_eq_true rfl) ⟨Nat.le_of_ble_eq_true rfl, Nat.le_of_ble_eq_true rfl⟩ dX8_gold_2 (fun H locs hW => ?_)
  refine lv_if_ne (tgt := 10) hx hb dX8_gold_5 (by decide) (fun c3 => ?_) (fun c3 => ?_)
  · replace h := ite_f h c3
    refine lv_aload_n hx hb dX8_gold_10 rfl (lv_at hl 0 rfl) ?_
    refine lv_iload_n hx hb dX8_gold_11 rfl (lv_at hl 1 rfl) ?_
    obtain ⟨r4, hr5, h⟩ := bd_of h
    refine wd_callV0 (As := [.int p0]) hC hW 0 wC_c0 rfl (c_X8_aimToWin l D cy ad X n S p0 r4 hr5) (cwV 1 hts (gu_V w_41_17 w_41_14 w_41_15 w_41_16 w_1_2) rfl rfl rfl hdX8_aimToWin ⟨Nat.le_of_ble_eq_true rfl, Nat.le_of_ble_eq_true rfl⟩) rfl hl.1 rfl (Nat.le_of_ble_eq_true rfl) ⟨Nat.le_of_ble_eq_true rfl, Nat.le_of_ble_eq_true rfl⟩ dX8_gold_12 (fun H locs hW => ?_)
    refine lv_aload_n hx hb dX8_gold_15 rfl (lv_at hl 0 rfl) ?_
    refine lv_iload_n hx hb dX8_gold_16 rfl (lv_at hl 1 rfl) ?_
    obtain ⟨r6, hr7, h⟩ := bd_of h
    refine wa_callV (As := [.int p0]) hC hW 0 wC_c0 rfl (c_X8_byChoiceB l D cy ad X n r4 p0 r6 hr7) (cwV 1 hts (gu_V w_34_22 w_34_19 w_34_20 w_34_21 w_1_2) rfl rfl rfl hdX8_byChoice ⟨Nat.le_of_ble_eq_true rfl, Nat.le_of_ble_eq_true rfl⟩) rfl hl.1 rfl (Nat.le_of_ble_eq_true rfl) ⟨by decide +kernel, by decide +kernel⟩ dX8_gold_17 (fun r w' H locs hp hW => ?_)
    obtain ⟨rfl, qs, rfl⟩ := hp
    refine W.eq (g2 := F0 m 20 ls [.int r6.1]) rfl ?_
    obtain rfl := Option.some.inj h
    exact wa_iret hA hQ hC hr hk hW ⟨rfl, Or.inr ⟨_, qs, rfl, rfl⟩⟩ (by decide +kernel) (by decide +kernel) dX8_gold_20
  · replace h := ite_t h c3
    refine lv_iconst (v := (-1)) hx hb dX8_gold_8 (by decide) ?_
    obtain rfl := Option.some.inj h
    exact wa_iret hA hQ hC hr hk hW ⟨rfl, Or.inl ⟨rfl, rfl⟩⟩ (by decide +kernel) (by decide +kernel) dX8_gold_9
def m_X8_lineB_L66 : Nat → St → St → Int32 → Int32 → Option (St × St)
  | 0, _, _, _, _ => none
  | n + 1, S, F, x3, x5 =>
    if 9 ≤ x5 then (some (S, F)) else ((m_X5_findTry n S).bind (fun r18 => if r18.1 = 0 then (some (r18.2, F)) else ((m_X2_valueFrom n r18.2 F).bind (fun r21 => ck x5 9 (nm (sJ r18.2 58 x5.toNatClampNeg ((r21.2.1 62).toInt64)) (fun S24 => nm (sI S24 0 ((S24.1 0) + 1)) (fun S26 => (m_X5_take S26 (r21.2.1 62) x3).bind (fun r28 => m_X8_lineB_L66 n r28 r21.2 x3 (x5 + 1)))))))))
theorem m_X8_lineB_L66_0 (S : St) (F : St) (x3 : Int32) (x5 : Int32) : m_X8_lineB_L66 0 S F x3 x5 = none := rfl
theorem m_X8_lineB_L66_s {n : Nat} {S : St} {F : St} {x3 : Int32} {x5 : Int32} : m_X8_lineB_L66 (n + 1) S F x3 x5 =
    (if 9 ≤ x5 then (some (S, F)) else ((m_X5_findTry n S).bind (fun r18 => if r18.1 = 0 then (some (r18.2, F)) else ((m_X2_valueFrom n r18.2 F).bind (fun r21 => ck x5 9 (nm (sJ r18.2 58 x5.toNatClampNeg ((r21.2.1 62).toInt64)) (fun S24 => nm (sI S24 0 ((S24.1 0) + 1)) (fun S26 => (m_X5_take S26 (r21.2.1 62) x3).bind (fun r28 => m_X8_lineB_L66 n r28 r21.2 x3 (x5 + 1)))))))))) := rfl
def m_X8_lineB (n : Nat) (S : St) (p0 : Int32) (p1 : Int32) (p2 : Int32) : Option (Int32 × St × Option St) :=
  (m_X8_isLifter S p0).bind (fun r1 => if r1 = 0 then (some ((-1), S, none)) else (if p1 < 0 then (some ((-1), S, none)) else (if p1 ≤ 1 then (((if p1 = 0 then ((m_X0_beMass n S).bind (fun r32 => some r32)) else ((m_X8_aimToWin n S p0).bind (fun r30 => some r30)) : Option (St))).bind (fun q7 => (m_X8_thinkFreelyB n q7 p0 0).bind (fun r9 => (m_X5_look r9.1 p0).bind (fun r11 => nm (sI r11 0 0) (fun S13 => (m_X8_lineB_L66 n S13 r9.2 p2 0).bind (fun q15 => some (q15.1.1 0, q15.1, some q15.2))))))) else (some ((-1), S, none)))))
set_option maxHeartbeats 8000000 in
set_option maxRecDepth 100000 in
theorem c_X8_lineB (l : Launch) (D : va_G) (cy : Nat → ClassId) (ad : Nat → Nat) (X : va_W) (n : Nat) (S : St) (p0 : Int32) (p1 : Int32) (p2 : Int32) (r : (Int32 × St × Option St)) (h : m_X8_lineB n S p0 p1 p2 = some r) : CTa l yX8_line (wu yX8_line cX8_line 6 (some .int)) 45 22 3306 D cy [.ref (ad 0), .int p0, .int p1, .int p2] (wC ad cy S ++ X) (fun v w' => v = some (.int r.1) ∧ ((r.2.2 = none ∧ w' = wC ad cy r.2.1 ++ X) ∨ ∃ (f : St) (qs : List Nat), r.2.2 = some f ∧ w' = wC (adU ad 59 81 qs) cy r.2.1 ++ (wF (adU ad 59 81 qs) cy f ++ X))) := by
  refine CTa.mk (cc := cX8_line) (maxL := 6) (ret := (some .int)) (own := RX8) (by decide) rfl rfl (Nat.le_of_ble_eq_true rfl) ?_
  intro p e s m args below meth c ls A Q hA hQ hC hr hk hnm hW hl
  have hx := hC.1
  have hb := hC.2.1
  have hown := hC.2.2.2.1
  have hts := hC.2.2.2.2
  have hl : lv_has ls 6 [(0, .ref (ad 0)), (1, .int p0), (2, .int p1), (3, .int p2)] := hl
  have f38 := hts _ (wu_in w_2_5)
  have i8 := (fun w h => wu_in (inc_8 w h) : ∀ w ∈ u_ws RX8 TX8 12, w ∈ (wu yX8_line cX8_line 6 (some .int)))
  have f28 := hts _ (wu_in w_2_0)
  have f65 := hts _ (wu_in w_2_18)
  have f61 := hts _ (wu_in w_2_17)
  have f245 := hts _ (wu_in w_34_23)
  have i2 := (fun w h => wu_in (inc_2 w h) : ∀ w ∈ u_ws RX2 TX2 12, w ∈ (wu yX8_line cX8_line 6 (some .int)))
  have f45 := hts _ (wu_in w_2_9)
  unfold m_X8_lineB at h
  refine lv_aload_n hx hb dX8_line_0 rfl (lv_at hl 0 rfl) ?_
  refine lv_iload_n hx hb dX8_line_1 rfl (lv_at hl 1 rfl) ?_
  obtain ⟨r1, hr2, h⟩ := bd_of h
  refine wd_callV1 (As := [.int p0]) hC hW 0 wC_c0 rfl (c_X8_isLifter l D cy ad X S p0 r1 hr2) (cwV 1 hts (gu_V w_13_9 w_13_6 w_13_7 w_13_8 w_1_2) rfl rfl rfl hdX8_isLifter ⟨Nat.le_of_ble_eq_true rfl, Nat.le_of_ble_eq_true rfl⟩) rfl hl.1 rfl (Nat.le_of_ble_eq_true rfl) ⟨Nat.le_of_ble_eq_true rfl, Nat.le_of_ble_eq_true rfl⟩ dX8_line_2 (fun H locs hW => ?_)
  refine lv_if_eq (tgt := 17) hx hb dX8_line_5 (by decide) (fun c3 => ?_) (fun c3 => ?_)
  · replace h := ite_t h c3
    refine lv_iconst (v := (-1)) hx hb dX8_line_17 (by decide) ?_
    obtain rfl := Option.some.inj h
    exact wa_iret hA hQ hC hr hk hW ⟨rfl, Or.inl ⟨rfl, rfl⟩⟩ (by decide +kernel) (by decide +kernel) dX8_line_18
  · replace h := ite_f h c3
    refine lv_iload_n hx hb dX8_line_8 rfl (lv_at hl 2 rfl) ?_
    refine lv_if_lt (tgt := 17) hx hb dX8_line_9 (by decide) (fun c4 => ?_) (fun c4 => ?_)
    · replace h := ite_t h c4
      refine lv_iconst (v := (-1)) hx hb dX8_line_17 (by decide) ?_
      obtain rfl := Option.some.inj h
      exact wa_iret hA hQ hC hr hk hW ⟨rfl, Or.inl ⟨rfl, rfl⟩⟩ (by decide +kernel) (by decide +kernel) dX8_line_18
    · replace h := ite_f h c4
      refine lv_iload_n hx hb dX8_line_12 rfl (lv_at hl 2 rfl) ?_
      refine lv_iconst (v := 1) hx hb dX8_line_13 (by decide) ?_
      refine lv_icmp_le (tgt := 19) hx hb dX8_line_14 (by decide) (fun c5 => ?_) (fun c5 => ?_)
      · replace h := ite_t h c5
        refine lv_iload_n hx hb dX8_line_19 rfl (lv_at hl 2 rfl) ?_
        obtain ⟨q7, hq8, h⟩ := bd_of h
        have hJ38 : ∀ (H : Heap) (locs : List Loc) (ls : Array Slot), Wd D cy A s (wC ad cy q7 ++ X) H locs → lv_has ls 6 [(0, .ref (ad 0)), (1, .int p0), (2, .int p1), (3, .int p2)] → W p l e (RMa 45 22 3306) s m args below meth c H locs 0 0 Q (F0 m 38 ls []) := by
          intro H locs ls hW hl
          refine lv_aload_n hx hb dX8_line_38 rfl (lv_at hl 0 rfl) ?_
          refine lv_iload_n hx hb dX8_line_39 rfl (lv_at hl 1 rfl) ?_
          refine lv_iconst (v := 0) hx hb dX8_line_40 (by decide) ?_
          obtain ⟨r9, hr10, h⟩ := bd_of h
          refine wa_callV (As := [.int p0, .int 0]) hC hW 0 wC_c0 rfl (c_X8_thinkFreelyB l D cy ad X n q7 p0 0 r9 hr10) (cwV 2 hts (gu_V w_35_3 w_35_0 w_35_1 w_35_2 w_1_2) rfl rfl rfl hdX8_thinkFreely ⟨Nat.le_of_ble_eq_true rfl, Nat.le_of_ble_eq_true rfl⟩) rfl hl.1 rfl (Nat.le_of_ble_eq_true rfl) ⟨by decide +kernel, by decide +kernel⟩ dX8_line_41 (fun r w' H locs hp hW => ?_)
          obtain ⟨qs, rfl, rfl⟩ := hp
          refine W.eq (g2 := F0 m 44 ls [.ref ((adU ad 59 81 qs) 59)]) rfl ?_
          refine lv_astore (lv' := [(4, .ref ((adU ad 59 81 qs) 59)), (0, .ref ((adU ad 59 81 qs) 0)), (1, .int p0), (2, .int p1), (3, .int p2)]) hx hb dX8_line_44 hl (by decide) rfl (fun ls hl => ?_)
          refine lv_aload_n hx hb dX8_line_46 rfl (lv_at hl 1 rfl) ?_
          refine wd_get hC i8 hW 0 wC_c0 rfl 4 (Nat.le_of_ble_eq_true rfl) f38 rfl rfl dX8_line_47 ?_
          refine lv_aload_n hx hb dX8_line_50 rfl (lv_at hl 1 rfl) ?_
          refine wd_get hC i8 hW 0 wC_c0 rfl 2 (Nat.le_of_ble_eq_true rfl) f28 rfl rfl dX8_line_51 ?_
          refine lv_iload_n hx hb dX8_line_54 rfl (lv_at hl 2 rfl) ?_
          obtain ⟨r11, hr12, h⟩ := bd_of h
          refine wd_callV0 (As := [.ref ((adU ad 59 81 qs) 25), .int p0]) hC hW 43 wC_c43 rfl (c_X5_look l D cy (adU ad 59 81 qs) (wF (adU ad 59 81 qs) cy r9.2 ++ X) r9.1 p0 r11 hr12) (cwV 2 hts (gu_V w_26_4 w_26_1 w_26_2 w_26_3 w_2_4) rfl rfl rfl hdX5_look ⟨Nat.le_of_ble_eq_true rfl, Nat.le_of_ble_eq_true rfl⟩) rfl hl.1 rfl (Nat.le_of_ble_eq_true rfl) ⟨Nat.le_of_ble_eq_true rfl, Nat.le_of_ble_eq_true rfl⟩ dX8_line_55 (fun H locs hW => ?_)
          refine lv_aload_n hx hb dX8_line_58 rfl (lv_at hl 1 rfl) ?_
          refine lv_iconst (v := 0) hx hb dX8_line_59 (by decide) ?_
          refine wd_put hC i8 tyX8_ok nmX8 hW 0 wC_c0 rfl 9 (Nat.le_of_ble_eq_true rfl) f65 rfl rfl rfl rfl (Nat.le_of_ble_eq_true rfl) wC_s0_9 dX8_line_60 (fun H locs hW => ?_)
          obtain ⟨S13, e14, h⟩ := nm_of h
          replace hW := wq_S e14 hW
          refine lv_iconst (v := 0) hx hb dX8_line_63 (by decide) ?_
          refine lv_istore (lv' := [(5, .int 0), (4, .ref ((adU ad 59 81 qs) 59)), (0, .ref ((adU ad 59 81 qs) 0)), (1, .int p0), (2, .int p1), (3, .int p2)]) hx hb dX8_line_64 hl (by decide) rfl (fun ls hl => ?_)
          have hL66 : ∀ (n : Nat) (S : St) (F : St) (x3 : Int32) (x5 : Int32)  (H : Heap) (locs : List Loc) (ls : Array Slot) (r : (St × St)), m_X8_lineB_L66 n S F x3 x5 = some r → Wd D cy A s (wC (adU ad 59 81 qs) cy S ++ (wF (adU ad 59 81 qs) cy F ++ X)) H locs → lv_has ls 6 [(0, .ref ((adU ad 59 81 qs) 0)), (3, .int x3), (4, .ref ((adU ad 59 81 qs) 59)), (5, .int x5)] → (∀ (H : Heap) (locs : List Loc) (ls : Array Slot), Wd D cy A s (wC (adU ad 59 81 qs) cy r.1 ++ (wF (adU ad 59 81 qs) cy r.2 ++ X)) H locs → lv_has ls 6 [(0, .ref ((adU ad 59 81 qs) 0)), (3, .int x3), (4, .ref ((adU ad 59 81 qs) 59))] → W p l e (RMa 45 22 3306) s m args below meth c H locs 22 3306 Q (F0 m 138 ls [])) → W p l e (RMa 45 22 3306) s m args below meth c H locs 22 3306 Q (F0 m 66 ls []) := by
            intro n
            induction n with
            | zero =>
              intro S F x3 x5  H locs ls r h
              exact absurd (h.symm.trans (m_X8_lineB_L66_0 ..)) (by simp)
            | succ n ih =>
              intro S F x3 x5  H locs ls r h hW hl kk
              rw [m_X8_lineB_L66_s] at h
              refine lv_iload hx hb dX8_line_66 (lv_at hl 3 rfl) ?_
              refine lv_aload_n hx hb dX8_line_68 rfl (lv_at hl 0 rfl) ?_
              refine wd_get hC i8 hW 0 wC_c0 rfl 8 (Nat.le_of_ble_eq_true rfl) f61 rfl rfl dX8_line_69 ?_
              refine wd_alen hC hW 58 1 wC_c58 rfl (v := 9) rfl dX8_line_72 ?_
              refine lv_icmp_ge (tgt := 138) hx hb dX8_line_73 (by decide) (fun c17 => ?_) (fun c17 => ?_)
              · replace h := ite_t h c17
                obtain rfl := Option.some.inj h
                exact kk _ _ _ hW (lv_sub hl [0, 1, 2] rfl)
              · replace h := ite_f h c17
                refine lv_aload_n hx hb dX8_line_76 rfl (lv_at hl 0 rfl) ?_
                refine wd_get hC i8 hW 0 wC_c0 rfl 4 (Nat.le_of_ble_eq_true rfl) f38 rfl rfl dX8_line_77 ?_
                obtain ⟨r18, hr19, h⟩ := bd_of h
                refine wd_callV1 (As := []) hC hW 43 wC_c43 rfl (c_X5_findTry l D cy (adU ad 59 81 qs) (wF (adU ad 59 81 qs) cy F ++ X) n S r18 hr19) (cwV 0 hts (gu_V w_36_14 w_36_11 w_36_12 w_36_13 w_2_4) rfl rfl rfl hdX5_findTry ⟨Nat.le_of_ble_eq_true rfl, Nat.le_of_ble_eq_true rfl⟩) rfl hl.1 rfl (Nat.le_of_ble_eq_true rfl) ⟨Nat.le_of_ble_eq_true rfl, Nat.le_of_ble_eq_true rfl⟩ dX8_line_80 (fun H locs hW => ?_)
                refine lv_if_eq (tgt := 138) hx hb dX8_line_83 (by decide) (fun c20 => ?_) (fun c20 => ?_)
                · replace h := ite_t h c20
                  obtain rfl := Option.some.inj h
                  exact kk _ _ _ hW (lv_sub hl [0, 1, 2] rfl)
                · replace h := ite_f h c20
                  refine lv_aload hx hb dX8_line_86 (lv_at hl 2 rfl) ?_
                  refine lv_aload_n hx hb dX8_line_88 rfl (lv_at hl 0 rfl) ?_
                  refine wd_get hC i8 hW 0 wC_c0 rfl 4 (Nat.le_of_ble_eq_true rfl) f38 rfl rfl dX8_line_89 ?_
                  obtain ⟨r21, hr22, h⟩ := bd_of h
                  refine wd_callV1 (As := [.ref ((adU ad 59 81 qs) 43)]) hC hW 59 wF_c59 rfl (c_X2_valueFrom l D cy (adU ad 59 81 qs) X n r18.2 F r21 hr22) (cwV 1 hts (gu_V w_36_22 w_36_19 w_36_20 w_36_21 w_35_6) rfl rfl rfl hdX2_valueFrom ⟨Nat.le_of_ble_eq_true rfl, Nat.le_of_ble_eq_true rfl⟩) rfl hl.1 rfl (Nat.le_of_ble_eq_true rfl) ⟨Nat.le_of_ble_eq_true rfl, Nat.le_of_ble_eq_true rfl⟩ dX8_line_92 (fun H locs hW => ?_)
                  refine lv_pop hx hb dX8_line_95 rfl ?_
                  refine lv_aload_n hx hb dX8_line_96 rfl (lv_at hl 0 rfl) ?_
                  refine wd_get hC i8 hW 0 wC_c0 rfl 8 (Nat.le_of_ble_eq_true rfl) f61 rfl rfl dX8_line_97 ?_
                  refine lv_iload hx hb dX8_line_100 (lv_at hl 3 rfl) ?_
                  refine lv_aload hx hb dX8_line_102 (lv_at hl 2 rfl) ?_
                  refine wd_get hC i2 hW 59 wF_c59 rfl 0 (Nat.le_of_ble_eq_true rfl) f245 rfl rfl dX8_line_104 ?_
                  refine lv_i2l (v := (r21.2.1 62).toInt64) hx hb dX8_line_107 rfl ?_
                  obtain ⟨hi23, h⟩ := ck_of h
                  refine wd_last hC hW 58 wC_c58 hi23 wC_t58 dX8_line_108 (fun H locs hW => ?_)
                  obtain ⟨S24, e25, h⟩ := nm_of h
                  replace hW := wq_S e25 hW
                  refine lv_aload_n hx hb dX8_line_109 rfl (lv_at hl 0 rfl) ?_
                  refine lv_dup hx hb dX8_line_110 rfl ?_
                  refine wd_get hC i8 hW 0 wC_c0 rfl 9 (Nat.le_of_ble_eq_true rfl) f65 rfl rfl dX8_line_111 ?_
                  refine lv_iconst (v := 1) hx hb dX8_line_114 (by decide) ?_
                  refine lv_iadd hx hb dX8_line_115 ?_
                  refine wd_put hC i8 tyX8_ok nmX8 hW 0 wC_c0 rfl 9 (Nat.le_of_ble_eq_true rfl) f65 rfl rfl rfl rfl (Nat.le_of_ble_eq_true rfl) wC_s0_9 dX8_line_116 (fun H locs hW => ?_)
                  obtain ⟨S26, e27, h⟩ := nm_of h
                  replace hW := wq_S e27 hW
                  refine lv_aload_n hx hb dX8_line_119 rfl (lv_at hl 0 rfl) ?_
                  refine wd_get hC i8 hW 0 wC_c0 rfl 4 (Nat.le_of_ble_eq_true rfl) f38 rfl rfl dX8_line_120 ?_
                  refine lv_aload hx hb dX8_line_123 (lv_at hl 2 rfl) ?_
                  refine wd_get hC i2 hW 59 wF_c59 rfl 0 (Nat.le_of_ble_eq_true rfl) f245 rfl rfl dX8_line_125 ?_
                  refine lv_iload_n hx hb dX8_line_128 rfl (lv_at hl 1 rfl) ?_
                  obtain ⟨r28, hr29, h⟩ := bd_of h
                  refine wd_callV0 (As := [.int (r21.2.1 62), .int x3]) hC hW 43 wC_c43 rfl (c_X5_take l D cy (adU ad 59 81 qs) (wF (adU ad 59 81 qs) cy r21.2 ++ X) S26 (r21.2.1 62) x3 r28 hr29) (cwV 2 hts (gu_V w_42_5 w_42_2 w_42_3 w_42_4 w_2_4) rfl rfl rfl hdX5_take ⟨Nat.le_of_ble_eq_true rfl, Nat.le_of_ble_eq_true rfl⟩) rfl hl.1 rfl (Nat.le_of_ble_eq_true rfl) ⟨Nat.le_of_ble_eq_true rfl, Nat.le_of_ble_eq_true rfl⟩ dX8_line_129 (fun H locs hW => ?_)
                  refine lv_iinc (v := x5 + 1) (lv' := [(5, .int (x5 + 1)), (0, .ref ((adU ad 59 81 qs) 0)), (3, .int x3), (4, .ref ((adU ad 59 81 qs) 59))]) hx hb dX8_line_132 hl (k := 3) rfl rfl (by decide) rfl (fun ls hl => ?_)
                  refine lv_goto (tgt := 66) hx hb dX8_line_135 (by decide) ?_
                  exact ih r28 r21.2 x3 (x5 + 1) _ _ _ r h hW (lv_sub hl [1, 2, 3, 0] rfl) kk
          obtain ⟨q15, hq16, h⟩ := bd_of h
          refine hL66 n S13 r9.2 p2 0  _ _ _ q15 hq16 hW (lv_sub hl [2, 5, 1, 0] rfl) (fun H locs ls hW hl => ?_)
          refine lv_aload_n hx hb dX8_line_138 rfl (lv_at hl 0 rfl) ?_
          refine wd_get hC i8 hW 0 wC_c0 rfl 9 (Nat.le_of_ble_eq_true rfl) f65 rfl rfl dX8_line_139 ?_
          obtain rfl := Option.some.inj h
          exact wa_iret hA hQ hC hr hk hW ⟨rfl, Or.inr ⟨_, qs, rfl, rfl⟩⟩ (by decide +kernel) (by decide +kernel) dX8_line_142
        replace h := hq8
        refine lv_if_ne (tgt := 33) hx hb dX8_line_20 (by decide) (fun c6 => ?_) (fun c6 => ?_)
        · replace h := ite_f h c6
          refine lv_aload_n hx hb dX8_line_33 rfl (lv_at hl 0 rfl) ?_
          refine lv_iload_n hx hb dX8_line_34 rfl (lv_at hl 1 rfl) ?_
          obtain ⟨r30, hr31, h⟩ := bd_of h
          refine wd_callV0 (As := [.int p0]) hC hW 0 wC_c0 rfl (c_X8_aimToWin l D cy ad X n S p0 r30 hr31) (cwV 1 hts (gu_V w_41_17 w_41_14 w_41_15 w_41_16 w_1_2) rfl rfl rfl hdX8_aimToWin ⟨Nat.le_of_ble_eq_true rfl, Nat.le_of_ble_eq_true rfl⟩) rfl hl.1 rfl (Nat.le_of_ble_eq_true rfl) ⟨Nat.le_of_ble_eq_true rfl, Nat.le_of_ble_eq_true rfl⟩ dX8_line_35 (fun H locs hW => ?_)
          obtain rfl := Option.some.inj h
          exact hJ38 _ _ _ hW (lv_sub hl [0, 1, 2, 3] rfl)
        · replace h := ite_t h c6
          refine lv_aload_n hx hb dX8_line_23 rfl (lv_at hl 0 rfl) ?_
          refine wd_get hC i8 hW 0 wC_c0 rfl 5 (Nat.le_of_ble_eq_true rfl) f45 rfl rfl dX8_line_24 ?_
          obtain ⟨r32, hr33, h⟩ := bd_of h
          refine wd_callV0 (As := []) hC hW 44 wC_c44 rfl (c_X0_beMass l D cy ad X n S r32 hr33) (cwV 0 hts (gu_V w_25_12 w_25_9 w_25_10 w_25_11 w_2_8) rfl rfl rfl hdX0_beMass ⟨Nat.le_of_ble_eq_true rfl, Nat.le_of_ble_eq_true rfl⟩) rfl hl.1 rfl (Nat.le_of_ble_eq_true rfl) ⟨Nat.le_of_ble_eq_true rfl, Nat.le_of_ble_eq_true rfl⟩ dX8_line_27 (fun H locs hW => ?_)
          refine lv_goto (tgt := 38) hx hb dX8_line_30 (by decide) ?_
          obtain rfl := Option.some.inj h
          exact hJ38 _ _ _ hW (lv_sub hl [0, 1, 2, 3] rfl)
      · replace h := ite_f h c5
        refine lv_iconst (v := (-1)) hx hb dX8_line_17 (by decide) ?_
        obtain rfl := Option.some.inj h
        exact wa_iret hA hQ hC hr hk hW ⟨rfl, Or.inl ⟨rfl, rfl⟩⟩ (by decide +kernel) (by decide +kernel) dX8_line_18
def m_X8_fightB (n : Nat) (S : St) (p0 : Int32) (p1 : Int32) (p2 : Int32) (p3 : Int32) (p4 : Int32) : Option (Int32 × St × Option St) :=
  if (S.1 32) = 2 then (if (S.1 33) = 2 then ((m_X4_waits 30 25 S p0).bind (fun r3 => if r3 = 0 then (some ((-3), S, none)) else ((m_X4_waits 30 25 S p1).bind (fun r6 => if r6 = 0 then (some ((-3), S, none)) else (ckz (S.2.2.2 3) (ckw (S.2.2.2 0) (nm (sR S 3 (some 0)) (fun S11 => nm Pr0 (fun P13 => onw (S11.2.2.2 3) 1 (fun j15 => (m_X1_meetUp n S11 P13 p0 p1).bind (fun r18 => onw (S11.2.2.2 3) 1 (fun j20 => (m_X1_solve n S11 r18 p2 p3).bind (fun r23 => onw (S11.2.2.2 3) 1 (fun j25 => (m_X1_firstCalled S11 r23.2).bind (fun r28 => ((if r28 = 0 then (some p1.toInt64) else (some p0.toInt64) : Option (Int64))).bind (fun q31 => ck 0 9 (nm (sJ S11 58 ((0 : Int32).toNatClampNeg) q31) (fun S34 => onw (S34.2.2.2 3) 1 (fun j36 => (m_X1_chosen n S34 r23.2 p2 p3).bind (fun r39 => ck 1 9 (nm (sJ S34 58 ((1 : Int32).toNatClampNeg) r39.toInt64) (fun S42 => onw (S42.2.2.2 3) 1 (fun j44 => (m_X1_valueAt S42 r23.2 0 0).bind (fun r47 => ck 2 9 (nm (sJ S42 58 ((2 : Int32).toNatClampNeg) r47.toInt64) (fun S50 => nm (sI S50 0 p4) (fun S52 => some (r23.1, S52, some r23.2)))))))))))))))))))))))))))) else (some ((-2), S, none))) else (some ((-2), S, none))
set_option maxHeartbeats 8000000 in
set_option maxRecDepth 100000 in
theorem c_X8_fightB (l : Launch) (D : va_G) (cy : Nat → ClassId) (ad : Nat → Nat) (X : va_W) (n : Nat) (S : St) (p0 : Int32) (p1 : Int32) (p2 : Int32) (p3 : Int32) (p4 : Int32) (r : (Int32 × St × Option St)) (h : m_X8_fightB n S p0 p1 p2 p3 p4 = some r) : CTa l yX8_fight (wu yX8_fight cX8_fight 7 (some .int)) 4 9 21992 D cy [.ref (ad 0), .int p0, .int p1, .int p2, .int p3, .int p4] (wC ad cy S ++ X) (fun v w' => v = some (.int r.1) ∧ ((r.2.2 = none ∧ w' = wC ad cy r.2.1 ++ X) ∨ ∃ (f : St) (qs : List Nat), r.2.2 = some f ∧ w' = wC (adU ad 81 90 qs) cy r.2.1 ++ (wP (adU ad 81 90 qs) cy f ++ X))) := by
  refine CTa.mk (cc := cX8_fight) (maxL := 7) (ret := (some .int)) (own := RX8) (by decide) rfl rfl (Nat.le_of_ble_eq_true rfl) ?_
  intro p e s m args below meth c ls A Q hA hQ hC hr hk hnm hW hl
  have hx := hC.1
  have hb := hC.2.1
  have hown := hC.2.2.2.1
  have hts := hC.2.2.2.2
  have hl : lv_has ls 7 [(0, .ref (ad 0)), (1, .int p0), (2, .int p1), (3, .int p2), (4, .int p3), (5, .int p4)] := hl
  have f28 := hts _ (wu_in w_2_0)
  have i8 := (fun w h => wu_in (inc_8 w h) : ∀ w ∈ u_ws RX8 TX8 12, w ∈ (wu yX8_fight cX8_fight 7 (some .int)))
  have f260 := hts _ (wu_in w_42_22)
  have i4 := (fun w h => wu_in (inc_4 w h) : ∀ w ∈ u_ws RX4 TX4 16, w ∈ (wu yX8_fight cX8_fight 7 (some .int)))
  have f263 := hts _ (wu_in w_42_23)
  have f73 := hts _ (wu_in w_2_20)
  have i1 := (fun w h => wu_in (inc_1 w h) : ∀ w ∈ u_ws RX1 TX1 16, w ∈ (wu yX8_fight cX8_fight 7 (some .int)))
  have cl299 := hts _ (wu_in w_43_0)
  have in1 := hts _ (wu_in w_43_1)
  have iz1 := hts _ (wu_in w_43_2)
  have im1 := hts _ (wu_in w_43_3)
  have f61 := hts _ (wu_in w_2_17)
  have f65 := hts _ (wu_in w_2_18)
  unfold m_X8_fightB at h
  refine lv_aload_n hx hb dX8_fight_0 rfl (lv_at hl 0 rfl) ?_
  refine wd_get hC i8 hW 0 wC_c0 rfl 2 (Nat.le_of_ble_eq_true rfl) f28 rfl rfl dX8_fight_1 ?_
  refine wd_get hC i4 hW 25 wC_c25 rfl 3 (Nat.le_of_ble_eq_true rfl) f260 rfl rfl dX8_fight_4 ?_
  refine lv_iconst (v := 2) hx hb dX8_fight_7 (by decide) ?_
  refine lv_icmp_ne (tgt := 22) hx hb dX8_fight_8 (by decide) (fun c1 => ?_) (fun c1 => ?_)
  · replace h := ite_f h c1
    refine lv_bipush (v := (-2)) hx hb dX8_fight_22 (by decide) ?_
    obtain rfl := Option.some.inj h
    exact wa_iret hA hQ hC hr hk hW ⟨rfl, Or.inl ⟨rfl, rfl⟩⟩ (by decide +kernel) (by decide +kernel) dX8_fight_24
  · replace h := ite_t h c1
    refine lv_aload_n hx hb dX8_fight_11 rfl (lv_at hl 0 rfl) ?_
    refine wd_get hC i8 hW 0 wC_c0 rfl 2 (Nat.le_of_ble_eq_true rfl) f28 rfl rfl dX8_fight_12 ?_
    refine wd_get hC i4 hW 25 wC_c25 rfl 4 (Nat.le_of_ble_eq_true rfl) f263 rfl rfl dX8_fight_15 ?_
    refine lv_iconst (v := 2) hx hb dX8_fight_18 (by decide) ?_
    refine lv_icmp_eq (tgt := 25) hx hb dX8_fight_19 (by decide) (fun c2 => ?_) (fun c2 => ?_)
    · replace h := ite_t h c2
      refine lv_aload_n hx hb dX8_fight_25 rfl (lv_at hl 0 rfl) ?_
      refine wd_get hC i8 hW 0 wC_c0 rfl 2 (Nat.le_of_ble_eq_true rfl) f28 rfl rfl dX8_fight_26 ?_
      refine lv_iload_n hx hb dX8_fight_29 rfl (lv_at hl 1 rfl) ?_
      obtain ⟨r3, hr4, h⟩ := bd_of h
      refine wd_callV1 (As := [.int p0]) hC hW 25 wC_c25 rfl (c_X4_waitsM l D cy ad X S p0 r3 hr4) (cwV 1 hts (gu_V w_16_23 w_16_20 w_16_21 w_16_22 w_1_23) rfl rfl rfl hdX4_waits ⟨Nat.le_of_ble_eq_true rfl, Nat.le_of_ble_eq_true rfl⟩) rfl hl.1 rfl (Nat.le_of_ble_eq_true rfl) ⟨Nat.le_of_ble_eq_true rfl, Nat.le_of_ble_eq_true rfl⟩ dX8_fight_30 (fun H locs hW => ?_)
      refine lv_if_eq (tgt := 47) hx hb dX8_fight_33 (by decide) (fun c5 => ?_) (fun c5 => ?_)
      · replace h := ite_t h c5
        refine lv_bipush (v := (-3)) hx hb dX8_fight_47 (by decide) ?_
        obtain rfl := Option.some.inj h
        exact wa_iret hA hQ hC hr hk hW ⟨rfl, Or.inl ⟨rfl, rfl⟩⟩ (by decide +kernel) (by decide +kernel) dX8_fight_49
      · replace h := ite_f h c5
        refine lv_aload_n hx hb dX8_fight_36 rfl (lv_at hl 0 rfl) ?_
        refine wd_get hC i8 hW 0 wC_c0 rfl 2 (Nat.le_of_ble_eq_true rfl) f28 rfl rfl dX8_fight_37 ?_
        refine lv_iload_n hx hb dX8_fight_40 rfl (lv_at hl 2 rfl) ?_
        obtain ⟨r6, hr7, h⟩ := bd_of h
        refine wd_callV1 (As := [.int p1]) hC hW 25 wC_c25 rfl (c_X4_waitsM l D cy ad X S p1 r6 hr7) (cwV 1 hts (gu_V w_16_23 w_16_20 w_16_21 w_16_22 w_1_23) rfl rfl rfl hdX4_waits ⟨Nat.le_of_ble_eq_true rfl, Nat.le_of_ble_eq_true rfl⟩) rfl hl.1 rfl (Nat.le_of_ble_eq_true rfl) ⟨Nat.le_of_ble_eq_true rfl, Nat.le_of_ble_eq_true rfl⟩ dX8_fight_41 (fun H locs hW => ?_)
        refine lv_if_ne (tgt := 50) hx hb dX8_fight_44 (by decide) (fun c8 => ?_) (fun c8 => ?_)
        · replace h := ite_f h c8
          refine lv_aload_n hx hb dX8_fight_50 rfl (lv_at hl 0 rfl) ?_
          obtain ⟨hz9, h⟩ := ckz_of h
          refine wd_get (v := .null) hC i8 hW 0 wC_c0 rfl 11 (Nat.le_of_ble_eq_true rfl) f73 rfl (congrArg some (by rw [hz9]; rfl)) dX8_fight_51 ?_
          refine lv_ifnonnullN hx hb dX8_fight_54 ?_
          refine lv_aload_n hx hb dX8_fight_57 rfl (lv_at hl 0 rfl) ?_
          refine wa_new (ci := 1) (fs := [.int 0, .int 0, .int 0, .int 0, .int 0, .int 0, .int 0, .int 0, .null, .null, .null, .null, .null, .null, .null, .null]) hC i1 tyX1_ok cl299 in1 iz1 hW rfl dfX1 (by decide +kernel) (by decide +kernel) dX8_fight_58 (fun q0 H hW => ?_)
          refine lv_dup hx hb dX8_fight_61 rfl ?_
          refine wa_callIN (As := []) hC hW (c_X1_init l D cy _ q0) ⟨va_cnB 0 hts (gu_N w_43_4) rfl rfl rfl (hW.2.2.2.2.2.at 8 rfl) iz1 hdX1_init ⟨Nat.le_of_ble_eq_true rfl, Nat.le_of_ble_eq_true rfl⟩, rfl, im1⟩ rfl hl.1 rfl (Nat.le_of_ble_eq_true rfl) ⟨by decide +kernel, by decide +kernel⟩ dX8_fight_62 (fun r w' H locs hp hW => ?_)
          obtain ⟨rfl, q1, q2, q3, q4, q5, q6, q7, q8, rfl⟩ := hp
          have hW := Wd.rot3 hW
          obtain ⟨hw10, h⟩ := ckw_of h
          refine W.eq (g2 := F0 m 65 ls [.ref q0, .ref (ad 0)]) rfl ?_
          have hW : Wd D cy A s (wC ad cy S ++ (wP (adU ad 81 90 [q0, q1, q2, q3, q4, q5, q6, q7, q8]) cy Pr0 ++ X)) H locs := hW
          have hW := wd_adP (qs := [q0, q1, q2, q3, q4, q5, q6, q7, q8]) hz9 hw10 hW
          refine wd_put hC i8 tyX8_ok nmX8 hW 0 wC_c0 rfl 11 (Nat.le_of_ble_eq_true rfl) f73 rfl rfl rfl rfl (Nat.le_of_ble_eq_true rfl) (wC_r0_11 (j := 0)) dX8_fight_65 (fun H locs hW => ?_)
          obtain ⟨qs, hqs⟩ : ∃ z : List Nat, z = [q0, q1, q2, q3, q4, q5, q6, q7, q8] := ⟨_, rfl⟩
          rw [← hqs] at hW
          refine W.widen (k := 9) (n := 21992) (by decide +kernel) (by decide +kernel) ?_
          obtain ⟨S11, e12, h⟩ := nm_of h
          replace hW := wq_S e12 hW
          obtain ⟨P13, e14, h⟩ := nm_of h
          replace hW := wq_P e14 hW
          refine lv_aload_n hx hb dX8_fight_68 rfl (lv_at hl 0 rfl) ?_
          obtain ⟨j15, ej16, hj17, h⟩ := onw_of h
          refine wd_get (v := .ref ((adU ad 81 90 qs) 81)) hC i8 hW 0 wC_c0 rfl 11 (Nat.le_of_ble_eq_true rfl) f73 rfl (congrArg some (by rw [ej16]; rfl)) dX8_fight_69 ?_
          refine lv_aload_n hx hb dX8_fight_72 rfl (lv_at hl 0 rfl) ?_
          refine wd_get hC i8 hW 0 wC_c0 rfl 2 (Nat.le_of_ble_eq_true rfl) f28 rfl rfl dX8_fight_73 ?_
          refine lv_iload_n hx hb dX8_fight_76 rfl (lv_at hl 1 rfl) ?_
          refine lv_iload_n hx hb dX8_fight_77 rfl (lv_at hl 2 rfl) ?_
          obtain ⟨r18, hr19, h⟩ := bd_of h
          refine wd_callV0 (As := [.ref ((adU ad 81 90 qs) 25), .int p0, .int p1]) hC hW 59 wP_c81 rfl (c_X1_meetUp l D cy (adU ad 81 90 qs) X n S11 P13 p0 p1 r18 hr19) (cwV 3 hts (gu_V w_44_1 w_43_22 w_43_23 w_44_0 w_43_2) rfl rfl rfl hdX1_meetUp ⟨Nat.le_of_ble_eq_true rfl, Nat.le_of_ble_eq_true rfl⟩) rfl hl.1 rfl (Nat.le_of_ble_eq_true rfl) ⟨Nat.le_of_ble_eq_true rfl, Nat.le_of_ble_eq_true rfl⟩ dX8_fight_78 (fun H locs hW => ?_)
          refine lv_aload_n hx hb dX8_fight_81 rfl (lv_at hl 0 rfl) ?_
          obtain ⟨j20, ej21, hj22, h⟩ := onw_of h
          refine wd_get (v := .ref ((adU ad 81 90 qs) 81)) hC i8 hW 0 wC_c0 rfl 11 (Nat.le_of_ble_eq_true rfl) f73 rfl (congrArg some (by rw [ej21]; rfl)) dX8_fight_82 ?_
          refine lv_iload_n hx hb dX8_fight_85 rfl (lv_at hl 3 rfl) ?_
          refine lv_iload hx hb dX8_fight_86 (lv_at hl 4 rfl) ?_
          obtain ⟨r23, hr24, h⟩ := bd_of h
          refine wd_callV1 (As := [.int p2, .int p3]) hC hW 59 wP_c81 rfl (c_X1_solve l D cy (adU ad 81 90 qs) X n S11 r18 p2 p3 r23 hr24) (cwV 2 hts (gu_V w_45_0 w_44_21 w_44_22 w_44_23 w_43_2) rfl rfl rfl hdX1_solve ⟨Nat.le_of_ble_eq_true rfl, Nat.le_of_ble_eq_true rfl⟩) rfl hl.1 rfl (Nat.le_of_ble_eq_true rfl) ⟨Nat.le_of_ble_eq_true rfl, Nat.le_of_ble_eq_true rfl⟩ dX8_fight_88 (fun H locs hW => ?_)
          refine lv_istore (lv' := [(6, .int r23.1), (0, .ref ((adU ad 81 90 qs) 0)), (1, .int p0), (2, .int p1), (3, .int p2), (4, .int p3), (5, .int p4)]) hx hb dX8_fight_91 hl (by decide) rfl (fun ls hl => ?_)
          refine lv_aload_n hx hb dX8_fight_93 rfl (lv_at hl 1 rfl) ?_
          refine wd_get hC i8 hW 0 wC_c0 rfl 8 (Nat.le_of_ble_eq_true rfl) f61 rfl rfl dX8_fight_94 ?_
          refine lv_iconst (v := 0) hx hb dX8_fight_97 (by decide) ?_
          refine lv_aload_n hx hb dX8_fight_98 rfl (lv_at hl 1 rfl) ?_
          obtain ⟨j25, ej26, hj27, h⟩ := onw_of h
          refine wd_get (v := .ref ((adU ad 81 90 qs) 81)) hC i8 hW 0 wC_c0 rfl 11 (Nat.le_of_ble_eq_true rfl) f73 rfl (congrArg some (by rw [ej26]; rfl)) dX8_fight_99 ?_
          obtain ⟨r28, hr29, h⟩ := bd_of h
          refine wd_callV1 (As := []) hC hW 59 wP_c81 rfl (c_X1_firstCalled l D cy (adU ad 81 90 qs) X S11 r23.2 r28 hr29) (cwV 0 hts (gu_V w_46_1 w_45_22 w_45_23 w_46_0 w_43_2) rfl rfl rfl hdX1_firstCalled ⟨Nat.le_of_ble_eq_true rfl, Nat.le_of_ble_eq_true rfl⟩) rfl hl.1 rfl (Nat.le_of_ble_eq_true rfl) ⟨Nat.le_of_ble_eq_true rfl, Nat.le_of_ble_eq_true rfl⟩ dX8_fight_102 (fun H locs hW => ?_)
          obtain ⟨q31, hq32, h⟩ := bd_of h
          have hJ115 : ∀ (H : Heap) (locs : List Loc) (ls : Array Slot), Wd D cy A s (wC (adU ad 81 90 qs) cy S11 ++ (wP (adU ad 81 90 qs) cy r23.2 ++ X)) H locs → lv_has ls 7 [(6, .int r23.1), (0, .ref ((adU ad 81 90 qs) 0)), (1, .int p0), (2, .int p1), (3, .int p2), (4, .int p3), (5, .int p4)] → W p l e (RMa 4 9 21992) s m args below meth c H locs 9 21992 Q (F0 m 115 ls [.long q31, .int 0, .ref ((adU ad 81 90 qs) 58)]) := by
            intro H locs ls hW hl
            obtain ⟨hi33, h⟩ := ck_of h
            refine wd_last hC hW 58 wC_c58 hi33 wC_t58 dX8_fight_115 (fun H locs hW => ?_)
            obtain ⟨S34, e35, h⟩ := nm_of h
            replace hW := wq_S e35 hW
            refine lv_aload_n hx hb dX8_fight_116 rfl (lv_at hl 1 rfl) ?_
            refine wd_get hC i8 hW 0 wC_c0 rfl 8 (Nat.le_of_ble_eq_true rfl) f61 rfl rfl dX8_fight_117 ?_
            refine lv_iconst (v := 1) hx hb dX8_fight_120 (by decide) ?_
            refine lv_aload_n hx hb dX8_fight_121 rfl (lv_at hl 1 rfl) ?_
            obtain ⟨j36, ej37, hj38, h⟩ := onw_of h
            refine wd_get (v := .ref ((adU ad 81 90 qs) 81)) hC i8 hW 0 wC_c0 rfl 11 (Nat.le_of_ble_eq_true rfl) f73 rfl (congrArg some (by rw [ej37]; rfl)) dX8_fight_122 ?_
            refine lv_iload_n hx hb dX8_fight_125 rfl (lv_at hl 4 rfl) ?_
            refine lv_iload hx hb dX8_fight_126 (lv_at hl 5 rfl) ?_
            obtain ⟨r39, hr40, h⟩ := bd_of h
            refine wd_callV1 (As := [.int p2, .int p3]) hC hW 59 wP_c81 rfl (c_X1_chosen l D cy (adU ad 81 90 qs) X n S34 r23.2 p2 p3 r39 hr40) (cwV 2 hts (gu_V w_46_5 w_46_2 w_46_3 w_46_4 w_43_2) rfl rfl rfl hdX1_chosen ⟨Nat.le_of_ble_eq_true rfl, Nat.le_of_ble_eq_true rfl⟩) rfl hl.1 rfl (Nat.le_of_ble_eq_true rfl) ⟨Nat.le_of_ble_eq_true rfl, Nat.le_of_ble_eq_true rfl⟩ dX8_fight_128 (fun H locs hW => ?_)
            refine lv_i2l (v := r39.toInt64) hx hb dX8_fight_131 rfl ?_
            obtain ⟨hi41, h⟩ := ck_of h
            refine wd_last hC hW 58 wC_c58 hi41 wC_t58 dX8_fight_132 (fun H locs hW => ?_)
            obtain ⟨S42, e43, h⟩ := nm_of h
            replace hW := wq_S e43 hW
            refine lv_aload_n hx hb dX8_fight_133 rfl (lv_at hl 1 rfl) ?_
            refine wd_get hC i8 hW 0 wC_c0 rfl 8 (Nat.le_of_ble_eq_true rfl) f61 rfl rfl dX8_fight_134 ?_
            refine lv_iconst (v := 2) hx hb dX8_fight_137 (by decide) ?_
            refine lv_aload_n hx hb dX8_fight_138 rfl (lv_at hl 1 rfl) ?_
            obtain ⟨j44, ej45, hj46, h⟩ := onw_of h
            refine wd_get (v := .ref ((adU ad 81 90 qs) 81)) hC i8 hW 0 wC_c0 rfl 11 (Nat.le_of_ble_eq_true rfl) f73 rfl (congrArg some (by rw [ej45]; rfl)) dX8_fight_139 ?_
            refine lv_iconst (v := 0) hx hb dX8_fight_142 (by decide) ?_
            refine lv_iconst (v := 0) hx hb dX8_fight_143 (by decide) ?_
            obtain ⟨r47, hr48, h⟩ := bd_of h
            refine wd_callV1 (As := [.int 0, .int 0]) hC hW 59 wP_c81 rfl (c_X1_valueAt l D cy (adU ad 81 90 qs) X S42 r23.2 0 0 r47 hr48) (cwV 2 hts (gu_V w_45_21 w_46_7 w_45_19 w_45_20 w_43_2) rfl rfl rfl hdX1_valueAt ⟨Nat.le_of_ble_eq_true rfl, Nat.le_of_ble_eq_true rfl⟩) rfl hl.1 rfl (Nat.le_of_ble_eq_true rfl) ⟨Nat.le_of_ble_eq_true rfl, Nat.le_of_ble_eq_true rfl⟩ dX8_fight_144 (fun H locs hW => ?_)
            refine lv_i2l (v := r47.toInt64) hx hb dX8_fight_147 rfl ?_
            obtain ⟨hi49, h⟩ := ck_of h
            refine wd_last hC hW 58 wC_c58 hi49 wC_t58 dX8_fight_148 (fun H locs hW => ?_)
            obtain ⟨S50, e51, h⟩ := nm_of h
            replace hW := wq_S e51 hW
            refine lv_aload_n hx hb dX8_fight_149 rfl (lv_at hl 1 rfl) ?_
            refine lv_iload hx hb dX8_fight_150 (lv_at hl 6 rfl) ?_
            refine wd_put hC i8 tyX8_ok nmX8 hW 0 wC_c0 rfl 9 (Nat.le_of_ble_eq_true rfl) f65 rfl rfl rfl rfl (Nat.le_of_ble_eq_true rfl) wC_s0_9 dX8_fight_152 (fun H locs hW => ?_)
            obtain ⟨S52, e53, h⟩ := nm_of h
            replace hW := wq_S e53 hW
            refine lv_iload hx hb dX8_fight_155 (lv_at hl 0 rfl) ?_
            obtain rfl := Option.some.inj h
            exact wa_iret hA hQ hC hr hk hW ⟨rfl, Or.inr ⟨_, qs, rfl, rfl⟩⟩ (by decide +kernel) (by decide +kernel) dX8_fight_157
          replace h := hq32
          refine lv_if_eq (tgt := 113) hx hb dX8_fight_105 (by decide) (fun c30 => ?_) (fun c30 => ?_)
          · replace h := ite_t h c30
            refine lv_iload_n hx hb dX8_fight_113 rfl (lv_at hl 3 rfl) ?_
            refine lv_i2l (v := p1.toInt64) hx hb dX8_fight_114 rfl ?_
            obtain rfl := Option.some.inj h
            exact hJ115 _ _ _ hW (lv_sub hl [0, 1, 2, 3, 4, 5, 6] rfl)
          · replace h := ite_f h c30
            refine lv_iload_n hx hb dX8_fight_108 rfl (lv_at hl 2 rfl) ?_
            refine lv_i2l (v := p0.toInt64) hx hb dX8_fight_109 rfl ?_
            refine lv_goto (tgt := 115) hx hb dX8_fight_110 (by decide) ?_
            obtain rfl := Option.some.inj h
            exact hJ115 _ _ _ hW (lv_sub hl [0, 1, 2, 3, 4, 5, 6] rfl)
        · replace h := ite_t h c8
          refine lv_bipush (v := (-3)) hx hb dX8_fight_47 (by decide) ?_
          obtain rfl := Option.some.inj h
          exact wa_iret hA hQ hC hr hk hW ⟨rfl, Or.inl ⟨rfl, rfl⟩⟩ (by decide +kernel) (by decide +kernel) dX8_fight_49
    · replace h := ite_f h c2
      refine lv_bipush (v := (-2)) hx hb dX8_fight_22 (by decide) ?_
      obtain rfl := Option.some.inj h
      exact wa_iret hA hQ hC hr hk hW ⟨rfl, Or.inl ⟨rfl, rfl⟩⟩ (by decide +kernel) (by decide +kernel) dX8_fight_24
def m_X8_duelB (n : Nat) (S : St) (p0 : Int32) (p1 : Int32) : Option (Int32 × St × Option St) :=
  (m_X8_isLifter S p0).bind (fun r1 => if r1 = 0 then (some ((-1), S, none)) else ((m_X8_isLifter S p1).bind (fun r4 => if r4 = 0 then (some ((-1), S, none)) else (if p0 = p1 then (some ((-1), S, none)) else (ck p0 6 (ck p1 6 (m_X8_fightB n S p0 p1 (S.2.1 28 p0.toNatClampNeg) (S.2.1 28 p1.toNatClampNeg) 3)))))))
set_option maxHeartbeats 8000000 in
set_option maxRecDepth 100000 in
theorem c_X8_duelB (l : Launch) (D : va_G) (cy : Nat → ClassId) (ad : Nat → Nat) (X : va_W) (n : Nat) (S : St) (p0 : Int32) (p1 : Int32) (r : (Int32 × St × Option St)) (h : m_X8_duelB n S p0 p1 = some r) : CTa l yX8_duel (wu yX8_duel cX8_duel 3 (some .int)) 5 9 21992 D cy [.ref (ad 0), .int p0, .int p1] (wC ad cy S ++ X) (fun v w' => v = some (.int r.1) ∧ ((r.2.2 = none ∧ w' = wC ad cy r.2.1 ++ X) ∨ ∃ (f : St) (qs : List Nat), r.2.2 = some f ∧ w' = wC (adU ad 81 90 qs) cy r.2.1 ++ (wP (adU ad 81 90 qs) cy f ++ X))) := by
  refine CTa.mk (cc := cX8_duel) (maxL := 3) (ret := (some .int)) (own := RX8) (by decide) rfl rfl (Nat.le_of_ble_eq_true rfl) ?_
  intro p e s m args below meth c ls A Q hA hQ hC hr hk hnm hW hl
  have hx := hC.1
  have hb := hC.2.1
  have hown := hC.2.2.2.1
  have hts := hC.2.2.2.2
  have hl : lv_has ls 3 [(0, .ref (ad 0)), (1, .int p0), (2, .int p1)] := hl
  have f28 := hts _ (wu_in w_2_0)
  have i8 := (fun w h => wu_in (inc_8 w h) : ∀ w ∈ u_ws RX8 TX8 12, w ∈ (wu yX8_duel cX8_duel 3 (some .int)))
  have f137 := hts _ (wu_in w_16_13)
  have i4 := (fun w h => wu_in (inc_4 w h) : ∀ w ∈ u_ws RX4 TX4 16, w ∈ (wu yX8_duel cX8_duel 3 (some .int)))
  unfold m_X8_duelB at h
  refine lv_aload_n hx hb dX8_duel_0 rfl (lv_at hl 0 rfl) ?_
  refine lv_iload_n hx hb dX8_duel_1 rfl (lv_at hl 1 rfl) ?_
  obtain ⟨r1, hr2, h⟩ := bd_of h
  refine wd_callV1 (As := [.int p0]) hC hW 0 wC_c0 rfl (c_X8_isLifter l D cy ad X S p0 r1 hr2) (cwV 1 hts (gu_V w_13_9 w_13_6 w_13_7 w_13_8 w_1_2) rfl rfl rfl hdX8_isLifter ⟨Nat.le_of_ble_eq_true rfl, Nat.le_of_ble_eq_true rfl⟩) rfl hl.1 rfl (Nat.le_of_ble_eq_true rfl) ⟨Nat.le_of_ble_eq_true rfl, Nat.le_of_ble_eq_true rfl⟩ dX8_duel_2 (fun H locs hW => ?_)
  refine lv_if_eq (tgt := 21) hx hb dX8_duel_5 (by decide) (fun c3 => ?_) (fun c3 => ?_)
  · replace h := ite_t h c3
    refine lv_iconst (v := (-1)) hx hb dX8_duel_21 (by decide) ?_
    obtain rfl := Option.some.inj h
    exact wa_iret hA hQ hC hr hk hW ⟨rfl, Or.inl ⟨rfl, rfl⟩⟩ (by decide +kernel) (by decide +kernel) dX8_duel_22
  · replace h := ite_f h c3
    refine lv_aload_n hx hb dX8_duel_8 rfl (lv_at hl 0 rfl) ?_
    refine lv_iload_n hx hb dX8_duel_9 rfl (lv_at hl 2 rfl) ?_
    obtain ⟨r4, hr5, h⟩ := bd_of h
    refine wd_callV1 (As := [.int p1]) hC hW 0 wC_c0 rfl (c_X8_isLifter l D cy ad X S p1 r4 hr5) (cwV 1 hts (gu_V w_13_9 w_13_6 w_13_7 w_13_8 w_1_2) rfl rfl rfl hdX8_isLifter ⟨Nat.le_of_ble_eq_true rfl, Nat.le_of_ble_eq_true rfl⟩) rfl hl.1 rfl (Nat.le_of_ble_eq_true rfl) ⟨Nat.le_of_ble_eq_true rfl, Nat.le_of_ble_eq_true rfl⟩ dX8_duel_10 (fun H locs hW => ?_)
    refine lv_if_eq (tgt := 21) hx hb dX8_duel_13 (by decide) (fun c6 => ?_) (fun c6 => ?_)
    · replace h := ite_t h c6
      refine lv_iconst (v := (-1)) hx hb dX8_duel_21 (by decide) ?_
      obtain rfl := Option.some.inj h
      exact wa_iret hA hQ hC hr hk hW ⟨rfl, Or.inl ⟨rfl, rfl⟩⟩ (by decide +kernel) (by decide +kernel) dX8_duel_22
    · replace h := ite_f h c6
      refine lv_iload_n hx hb dX8_duel_16 rfl (lv_at hl 1 rfl) ?_
      refine lv_iload_n hx hb dX8_duel_17 rfl (lv_at hl 2 rfl) ?_
      refine lv_icmp_ne (tgt := 23) hx hb dX8_duel_18 (by decide) (fun c7 => ?_) (fun c7 => ?_)
      · replace h := ite_f h c7
        refine lv_aload_n hx hb dX8_duel_23 rfl (lv_at hl 0 rfl) ?_
        refine lv_iload_n hx hb dX8_duel_24 rfl (lv_at hl 1 rfl) ?_
        refine lv_iload_n hx hb dX8_duel_25 rfl (lv_at hl 2 rfl) ?_
        refine lv_aload_n hx hb dX8_duel_26 rfl (lv_at hl 0 rfl) ?_
        refine wd_get hC i8 hW 0 wC_c0 rfl 2 (Nat.le_of_ble_eq_true rfl) f28 rfl rfl dX8_duel_27 ?_
        refine wd_get hC i4 hW 25 wC_c25 rfl 8 (Nat.le_of_ble_eq_true rfl) f137 rfl rfl dX8_duel_30 ?_
        refine lv_iload_n hx hb dX8_duel_33 rfl (lv_at hl 1 rfl) ?_
        obtain ⟨hi8, h⟩ := ck_of h
        refine wd_iald hC hW 28 wC_c28 hi8 dX8_duel_34 ?_
        refine lv_aload_n hx hb dX8_duel_35 rfl (lv_at hl 0 rfl) ?_
        refine wd_get hC i8 hW 0 wC_c0 rfl 2 (Nat.le_of_ble_eq_true rfl) f28 rfl rfl dX8_duel_36 ?_
        refine wd_get hC i4 hW 25 wC_c25 rfl 8 (Nat.le_of_ble_eq_true rfl) f137 rfl rfl dX8_duel_39 ?_
        refine lv_iload_n hx hb dX8_duel_42 rfl (lv_at hl 2 rfl) ?_
        obtain ⟨hi9, h⟩ := ck_of h
        refine wd_iald hC hW 28 wC_c28 hi9 dX8_duel_43 ?_
        refine lv_iconst (v := 3) hx hb dX8_duel_44 (by decide) ?_
        obtain ⟨r10, hr11⟩ : ∃ z, m_X8_fightB n S p0 p1 (S.2.1 28 p0.toNatClampNeg) (S.2.1 28 p1.toNatClampNeg) 3 = some z := ⟨_, h⟩
        refine wa_callV (As := [.int p0, .int p1, .int (S.2.1 28 p0.toNatClampNeg), .int (S.2.1 28 p1.toNatClampNeg), .int 3]) hC hW 0 wC_c0 rfl (c_X8_fightB l D cy ad X n S p0 p1 (S.2.1 28 p0.toNatClampNeg) (S.2.1 28 p1.toNatClampNeg) 3 r10 hr11) (cwV 5 hts (gu_V w_42_21 w_42_18 w_42_19 w_42_20 w_1_2) rfl rfl rfl hdX8_fight ⟨Nat.le_of_ble_eq_true rfl, Nat.le_of_ble_eq_true rfl⟩) rfl hl.1 rfl (Nat.le_of_ble_eq_true rfl) ⟨by decide +kernel, by decide +kernel⟩ dX8_duel_45 (fun r w' H locs hp hW => ?_)
        obtain ⟨rfl, hp⟩ := hp
        obtain rfl := Option.some.inj (h.symm.trans hr11)
        refine W.eq (g2 := F0 m 48 ls [.int _]) rfl ?_
        exact wa_iret hA hQ hC hr hk hW ⟨rfl, hp⟩ (by decide +kernel) (by decide +kernel) dX8_duel_48
      · replace h := ite_t h c7
        refine lv_iconst (v := (-1)) hx hb dX8_duel_21 (by decide) ?_
        obtain rfl := Option.some.inj h
        exact wa_iret hA hQ hC hr hk hW ⟨rfl, Or.inl ⟨rfl, rfl⟩⟩ (by decide +kernel) (by decide +kernel) dX8_duel_22
def m_X8_bluffB (n : Nat) (S : St) (p0 : Int32) (p1 : Int32) (p2 : Int32) (p3 : Int32) : Option (Int32 × St × Option St) :=
  (m_X8_isLifter S p0).bind (fun r1 => if r1 = 0 then (some ((-1), S, none)) else ((m_X8_isLifter S p1).bind (fun r4 => if r4 = 0 then (some ((-1), S, none)) else (if p0 = p1 then (some ((-1), S, none)) else (if p2 < 0 then (some ((-1), S, none)) else (if 2 < p2 then (some ((-1), S, none)) else (if p3 < 0 then (some ((-1), S, none)) else (if p3 ≤ 2 then (m_X8_fightB n S p0 p1 p2 p3 2) else (some ((-1), S, none))))))))))
set_option maxHeartbeats 8000000 in
set_option maxRecDepth 100000 in
theorem c_X8_bluffB (l : Launch) (D : va_G) (cy : Nat → ClassId) (ad : Nat → Nat) (X : va_W) (n : Nat) (S : St) (p0 : Int32) (p1 : Int32) (p2 : Int32) (p3 : Int32) (r : (Int32 × St × Option St)) (h : m_X8_bluffB n S p0 p1 p2 p3 = some r) : CTa l yX8_bluff (wu yX8_bluff cX8_bluff 5 (some .int)) 5 9 21992 D cy [.ref (ad 0), .int p0, .int p1, .int p2, .int p3] (wC ad cy S ++ X) (fun v w' => v = some (.int r.1) ∧ ((r.2.2 = none ∧ w' = wC ad cy r.2.1 ++ X) ∨ ∃ (f : St) (qs : List Nat), r.2.2 = some f ∧ w' = wC (adU ad 81 90 qs) cy r.2.1 ++ (wP (adU ad 81 90 qs) cy f ++ X))) := by
  refine CTa.mk (cc := cX8_bluff) (maxL := 5) (ret := (some .int)) (own := RX8) (by decide) rfl rfl (Nat.le_of_ble_eq_true rfl) ?_
  intro p e s m args below meth c ls A Q hA hQ hC hr hk hnm hW hl
  have hx := hC.1
  have hb := hC.2.1
  have hown := hC.2.2.2.1
  have hts := hC.2.2.2.2
  have hl : lv_has ls 5 [(0, .ref (ad 0)), (1, .int p0), (2, .int p1), (3, .int p2), (4, .int p3)] := hl
  unfold m_X8_bluffB at h
  refine lv_aload_n hx hb dX8_bluff_0 rfl (lv_at hl 0 rfl) ?_
  refine lv_iload_n hx hb dX8_bluff_1 rfl (lv_at hl 1 rfl) ?_
  obtain ⟨r1, hr2, h⟩ := bd_of h
  refine wd_callV1 (As := [.int p0]) hC hW 0 wC_c0 rfl (c_X8_isLifter l D cy ad X S p0 r1 hr2) (cwV 1 hts (gu_V w_13_9 w_13_6 w_13_7 w_13_8 w_1_2) rfl rfl rfl hdX8_isLifter ⟨Nat.le_of_ble_eq_true rfl, Nat.le_of_ble_eq_true rfl⟩) rfl hl.1 rfl (Nat.le_of_ble_eq_true rfl) ⟨Nat.le_of_ble_eq_true rfl, Nat.le_of_ble_eq_true rfl⟩ dX8_bluff_2 (fun H locs hW => ?_)
  refine lv_if_eq (tgt := 41) hx hb dX8_bluff_5 (by decide) (fun c3 => ?_) (fun c3 => ?_)
  · replace h := ite_t h c3
    refine lv_iconst (v := (-1)) hx hb dX8_bluff_41 (by decide) ?_
    obtain rfl := Option.some.inj h
    exact wa_iret hA hQ hC hr hk hW ⟨rfl, Or.inl ⟨rfl, rfl⟩⟩ (by decide +kernel) (by decide +kernel) dX8_bluff_42
  · replace h := ite_f h c3
    refine lv_aload_n hx hb dX8_bluff_8 rfl (lv_at hl 0 rfl) ?_
    refine lv_iload_n hx hb dX8_bluff_9 rfl (lv_at hl 2 rfl) ?_
    obtain ⟨r4, hr5, h⟩ := bd_of h
    refine wd_callV1 (As := [.int p1]) hC hW 0 wC_c0 rfl (c_X8_isLifter l D cy ad X S p1 r4 hr5) (cwV 1 hts (gu_V w_13_9 w_13_6 w_13_7 w_13_8 w_1_2) rfl rfl rfl hdX8_isLifter ⟨Nat.le_of_ble_eq_true rfl, Nat.le_of_ble_eq_true rfl⟩) rfl hl.1 rfl (Nat.le_of_ble_eq_true rfl) ⟨Nat.le_of_ble_eq_true rfl, Nat.le_of_ble_eq_true rfl⟩ dX8_bluff_10 (fun H locs hW => ?_)
    refine lv_if_eq (tgt := 41) hx hb dX8_bluff_13 (by decide) (fun c6 => ?_) (fun c6 => ?_)
    · replace h := ite_t h c6
      refine lv_iconst (v := (-1)) hx hb dX8_bluff_41 (by decide) ?_
      obtain rfl := Option.some.inj h
      exact wa_iret hA hQ hC hr hk hW ⟨rfl, Or.inl ⟨rfl, rfl⟩⟩ (by decide +kernel) (by decide +kernel) dX8_bluff_42
    · replace h := ite_f h c6
      refine lv_iload_n hx hb dX8_bluff_16 rfl (lv_at hl 1 rfl) ?_
      refine lv_iload_n hx hb dX8_bluff_17 rfl (lv_at hl 2 rfl) ?_
      refine lv_icmp_eq (tgt := 41) hx hb dX8_bluff_18 (by decide) (fun c7 => ?_) (fun c7 => ?_)
      · replace h := ite_t h c7
        refine lv_iconst (v := (-1)) hx hb dX8_bluff_41 (by decide) ?_
        obtain rfl := Option.some.inj h
        exact wa_iret hA hQ hC hr hk hW ⟨rfl, Or.inl ⟨rfl, rfl⟩⟩ (by decide +kernel) (by decide +kernel) dX8_bluff_42
      · replace h := ite_f h c7
        refine lv_iload_n hx hb dX8_bluff_21 rfl (lv_at hl 3 rfl) ?_
        refine lv_if_lt (tgt := 41) hx hb dX8_bluff_22 (by decide) (fun c8 => ?_) (fun c8 => ?_)
        · replace h := ite_t h c8
          refine lv_iconst (v := (-1)) hx hb dX8_bluff_41 (by decide) ?_
          obtain rfl := Option.some.inj h
          exact wa_iret hA hQ hC hr hk hW ⟨rfl, Or.inl ⟨rfl, rfl⟩⟩ (by decide +kernel) (by decide +kernel) dX8_bluff_42
        · replace h := ite_f h c8
          refine lv_iload_n hx hb dX8_bluff_25 rfl (lv_at hl 3 rfl) ?_
          refine lv_iconst (v := 2) hx hb dX8_bluff_26 (by decide) ?_
          refine lv_icmp_gt (tgt := 41) hx hb dX8_bluff_27 (by decide) (fun c9 => ?_) (fun c9 => ?_)
          · replace h := ite_t h c9
            refine lv_iconst (v := (-1)) hx hb dX8_bluff_41 (by decide) ?_
            obtain rfl := Option.some.inj h
            exact wa_iret hA hQ hC hr hk hW ⟨rfl, Or.inl ⟨rfl, rfl⟩⟩ (by decide +kernel) (by decide +kernel) dX8_bluff_42
          · replace h := ite_f h c9
            refine lv_iload hx hb dX8_bluff_30 (lv_at hl 4 rfl) ?_
            refine lv_if_lt (tgt := 41) hx hb dX8_bluff_32 (by decide) (fun c10 => ?_) (fun c10 => ?_)
            · replace h := ite_t h c10
              refine lv_iconst (v := (-1)) hx hb dX8_bluff_41 (by decide) ?_
              obtain rfl := Option.some.inj h
              exact wa_iret hA hQ hC hr hk hW ⟨rfl, Or.inl ⟨rfl, rfl⟩⟩ (by decide +kernel) (by decide +kernel) dX8_bluff_42
            · replace h := ite_f h c10
              refine lv_iload hx hb dX8_bluff_35 (lv_at hl 4 rfl) ?_
              refine lv_iconst (v := 2) hx hb dX8_bluff_37 (by decide) ?_
              refine lv_icmp_le (tgt := 43) hx hb dX8_bluff_38 (by decide) (fun c11 => ?_) (fun c11 => ?_)
              · replace h := ite_t h c11
                refine lv_aload_n hx hb dX8_bluff_43 rfl (lv_at hl 0 rfl) ?_
                refine lv_iload_n hx hb dX8_bluff_44 rfl (lv_at hl 1 rfl) ?_
                refine lv_iload_n hx hb dX8_bluff_45 rfl (lv_at hl 2 rfl) ?_
                refine lv_iload_n hx hb dX8_bluff_46 rfl (lv_at hl 3 rfl) ?_
                refine lv_iload hx hb dX8_bluff_47 (lv_at hl 4 rfl) ?_
                refine lv_iconst (v := 2) hx hb dX8_bluff_49 (by decide) ?_
                obtain ⟨r12, hr13⟩ : ∃ z, m_X8_fightB n S p0 p1 p2 p3 2 = some z := ⟨_, h⟩
                refine wa_callV (As := [.int p0, .int p1, .int p2, .int p3, .int 2]) hC hW 0 wC_c0 rfl (c_X8_fightB l D cy ad X n S p0 p1 p2 p3 2 r12 hr13) (cwV 5 hts (gu_V w_42_21 w_42_18 w_42_19 w_42_20 w_1_2) rfl rfl rfl hdX8_fight ⟨Nat.le_of_ble_eq_true rfl, Nat.le_of_ble_eq_true rfl⟩) rfl hl.1 rfl (Nat.le_of_ble_eq_true rfl) ⟨by decide +kernel, by decide +kernel⟩ dX8_bluff_50 (fun r w' H locs hp hW => ?_)
                obtain ⟨rfl, hp⟩ := hp
                obtain rfl := Option.some.inj (h.symm.trans hr13)
                refine W.eq (g2 := F0 m 53 ls [.int _]) rfl ?_
                exact wa_iret hA hQ hC hr hk hW ⟨rfl, hp⟩ (by decide +kernel) (by decide +kernel) dX8_bluff_53
              · replace h := ite_f h c11
                refine lv_iconst (v := (-1)) hx hb dX8_bluff_41 (by decide) ?_
                obtain rfl := Option.some.inj h
                exact wa_iret hA hQ hC hr hk hW ⟨rfl, Or.inl ⟨rfl, rfl⟩⟩ (by decide +kernel) (by decide +kernel) dX8_bluff_42
