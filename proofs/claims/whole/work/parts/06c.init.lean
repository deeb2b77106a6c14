theorem ha_int (N : Nat) (c : ClassId) : vp_cell c (N, .inl (fun _ => 0)) = arrV c N (fun _ => defaultValue .int) := rfl
theorem ha_char (N : Nat) (c : ClassId) : vp_cell c (N, .inl (fun _ => 0)) = arrV c N (fun _ => defaultValue .char) := rfl
theorem ha_boolean (N : Nat) (c : ClassId) : vp_cell c (N, .inl (fun _ => 0)) = arrV c N (fun _ => defaultValue .boolean) := rfl
theorem ha_long (N : Nat) (c : ClassId) : vp_cell c (N, .inr (.inl (fun _ => 0))) = arrV c N (fun _ => defaultValue .long) := rfl
set_option maxHeartbeats 4000000 in
set_option maxRecDepth 100000 in
theorem c_X0_init (l : Launch) (D : va_G) (cy : Nat → ClassId) (X : va_W) (h0 : Nat) : CTa l yX0_init (wu yX0_init cX0_init 1 none) 1 1 242 D cy [.ref h0] ([(h0, .inr (0, [.null, .int 0]))] ++ X) (fun r w' => r = none ∧ ∃ (q1 : Nat), w' = [(h0, .inr (0, [.ref q1, .int 0])), (q1, .inl (cy 0, 242, .inl (fun _ => 0)))] ++ X) := by
  refine CTa.mk (cc := cX0_init) (maxL := 1) (ret := none) (own := RX0) (by decide) rfl rfl (Nat.le_of_ble_eq_true rfl) ?_
  intro p e s m args below meth c ls A Q hA hQ hC hr hk hnm hW hl
  have hx := hC.1
  have hb := hC.2.1
  have hown := hC.2.2.2.1
  have hts := hC.2.2.2.2
  have hnm : meth.name = "<init>" := hnm
  have hl : lv_has ls 1 [(0, .ref h0)] := hl
  have oi := hts _ (wu_in w_4_12)
  have on := hts _ (wu_in w_1_11)
  have oc := hts _ (wu_in w_1_12)
  have aint := hts _ (wu_in w_2_15)
  have i0 := (fun w h => wu_in (inc_0 w h) : ∀ w ∈ u_ws RX0 TX0 2, w ∈ (wu yX0_init cX0_init 1 none))
  have f9 := hts _ (wu_in w_4_13)
  have f15 := hts _ (wu_in w_4_14)
  have hW : Wd D cy A s (((h0, .inr (0, [.null, .int 0])) :: []) ++ X) s.heap [] := hW
  refine lv_aload_n hx hb dX0_init_0 rfl (lv_at hl 0 rfl) ?_
  refine W.objInit hx hb hown oi on oc rfl (hl.1.trans hC.2.2.1.symm) rfl dX0_init_1 (Nat.le_of_ble_eq_true rfl) (Nat.le_of_ble_eq_true rfl) ?_
  refine W.eq (g2 := F0 m 4 ls []) rfl ?_
  refine lv_aload_n hx hb dX0_init_4 rfl (lv_at hl 0 rfl) ?_
  refine lv_sipush (v := 242) hx hb dX0_init_5 (by decide +kernel) ?_
  refine wa_newah (atype := .int) hC aint rfl 0 rfl (fun C h => by cases h) hW 242 (242, .inl (fun _ => 0)) (ha_int 242) (by decide +kernel) (by decide +kernel) (by decide +kernel) (by decide +kernel) (by decide +kernel) dX0_init_8 (fun q1 H hW => ?_)
  have hW : Wd D cy A s ((_ :: [(q1, .inl (cy 0, 242, .inl (fun _ => 0)))]) ++ X) H _ := hW
  refine wa_putFh hC i0 tyX0_ok nmX0 hW rfl 0 (Nat.le_of_ble_eq_true rfl) f9 rfl rfl hnm rfl rfl (Nat.le_of_ble_eq_true rfl) (fs' := [.ref q1, .int 0]) rfl dX0_init_10 (fun H locs hW => ?_)
  refine lv_aload_n hx hb dX0_init_13 rfl (lv_at hl 0 rfl) ?_
  refine lv_iconst (v := 0) hx hb dX0_init_14 (by decide +kernel) ?_
  refine wa_puth hC i0 tyX0_ok nmX0 hW rfl 1 (Nat.le_of_ble_eq_true rfl) f15 rfl rfl rfl rfl (Nat.le_of_ble_eq_true rfl) (fs' := [.ref q1, .int 0]) rfl dX0_init_15 (fun H locs hW => ?_)
  exact wa_vret hA hQ hC hr hk hW ⟨rfl, q1, rfl⟩ (by decide +kernel) (by decide +kernel) dX0_init_18
set_option maxHeartbeats 4000000 in
set_option maxRecDepth 100000 in
theorem c_X1_init (l : Launch) (D : va_G) (cy : Nat → ClassId) (X : va_W) (h0 : Nat) : CTa l yX1_init (wu yX1_init cX1_init 1 none) 1 8 21976 D cy [.ref h0] ([(h0, .inr (1, [.int 0, .int 0, .int 0, .int 0, .int 0, .int 0, .int 0, .int 0, .null, .null, .null, .null, .null, .null, .null, .null]))] ++ X) (fun r w' => r = none ∧ ∃ (q1 : Nat) (q2 : Nat) (q3 : Nat) (q4 : Nat) (q5 : Nat) (q6 : Nat) (q7 : Nat) (q8 : Nat), w' = [(h0, .inr (1, [.int 0, .int 0, .int 1, .int 1, .int 0, .int 0, .int 0, .int 0, .ref q1, .ref q2, .ref q3, .ref q4, .ref q5, .ref q6, .ref q7, .ref q8])), (q1, .inl (cy 0, 41, .inl (fun _ => 0))), (q2, .inl (cy 0, 41, .inl (fun _ => 0))), (q3, .inl (cy 0, 1681, .inl (fun _ => 0))), (q4, .inl (cy 0, 1681, .inl (fun _ => 0))), (q5, .inl (cy 0, 1681, .inl (fun _ => 0))), (q6, .inl (cy 0, 1681, .inl (fun _ => 0))), (q7, .inl (cy 0, 15129, .inl (fun _ => 0))), (q8, .inl (cy 0, 41, .inl (fun _ => 0)))] ++ X) := by
  refine CTa.mk (cc := cX1_init) (maxL := 1) (ret := none) (own := RX1) (by decide) rfl rfl (Nat.le_of_ble_eq_true rfl) ?_
  intro p e s m args below meth c ls A Q hA hQ hC hr hk hnm hW hl
  have hx := hC.1
  have hb := hC.2.1
  have hown := hC.2.2.2.1
  have hts := hC.2.2.2.2
  have hnm : meth.name = "<init>" := hnm
  have hl : lv_has ls 1 [(0, .ref h0)] := hl
  have oi := hts _ (wu_in w_43_5)
  have on := hts _ (wu_in w_1_11)
  have oc := hts _ (wu_in w_1_12)
  have i1 := (fun w h => wu_in (inc_1 w h) : ∀ w ∈ u_ws RX1 TX1 16, w ∈ (wu yX1_init cX1_init 1 none))
  have f11 := hts _ (wu_in w_43_6)
  have f15 := hts _ (wu_in w_43_7)
  have f18 := hts _ (wu_in w_43_8)
  have f22 := hts _ (wu_in w_43_9)
  have f25 := hts _ (wu_in w_43_10)
  have f28 := hts _ (wu_in w_43_11)
  have f31 := hts _ (wu_in w_43_12)
  have f34 := hts _ (wu_in w_43_13)
  have aint := hts _ (wu_in w_2_15)
  have f37 := hts _ (wu_in w_43_14)
  have f41 := hts _ (wu_in w_43_15)
  have f44 := hts _ (wu_in w_43_16)
  have f47 := hts _ (wu_in w_43_17)
  have f50 := hts _ (wu_in w_43_18)
  have f53 := hts _ (wu_in w_43_19)
  have f56 := hts _ (wu_in w_43_20)
  have f59 := hts _ (wu_in w_43_21)
  have hW : Wd D cy A s (((h0, .inr (1, [.int 0, .int 0, .int 0, .int 0, .int 0, .int 0, .int 0, .int 0, .null, .null, .null, .null, .null, .null, .null, .null])) :: []) ++ X) s.heap [] := hW
  refine lv_aload_n hx hb dX1_init_0 rfl (lv_at hl 0 rfl) ?_
  refine W.objInit hx hb hown oi on oc rfl (hl.1.trans hC.2.2.1.symm) rfl dX1_init_1 (Nat.le_of_ble_eq_true rfl) (Nat.le_of_ble_eq_true rfl) ?_
  refine W.eq (g2 := F0 m 4 ls []) rfl ?_
  refine lv_aload_n hx hb dX1_init_4 rfl (lv_at hl 0 rfl) ?_
  refine lv_iconst (v := 0) hx hb dX1_init_5 (by decide +kernel) ?_
  refine wa_puth hC i1 tyX1_ok nmX1 hW rfl 0 (Nat.le_of_ble_eq_true rfl) f11 rfl rfl rfl rfl (Nat.le_of_ble_eq_true rfl) (fs' := [.int 0, .int 0, .int 0, .int 0, .int 0, .int 0, .int 0, .int 0, .null, .null, .null, .null, .null, .null, .null, .null]) rfl dX1_init_6 (fun H locs hW => ?_)
  refine lv_aload_n hx hb dX1_init_9 rfl (lv_at hl 0 rfl) ?_
  refine lv_iconst (v := 0) hx hb dX1_init_10 (by decide +kernel) ?_
  refine wa_puth hC i1 tyX1_ok nmX1 hW rfl 1 (Nat.le_of_ble_eq_true rfl) f15 rfl rfl rfl rfl (Nat.le_of_ble_eq_true rfl) (fs' := [.int 0, .int 0, .int 0, .int 0, .int 0, .int 0, .int 0, .int 0, .null, .null, .null, .null, .null, .null, .null, .null]) rfl dX1_init_11 (fun H locs hW => ?_)
  refine lv_aload_n hx hb dX1_init_14 rfl (lv_at hl 0 rfl) ?_
  refine lv_iconst (v := 1) hx hb dX1_init_15 (by decide +kernel) ?_
  refine wa_puth hC i1 tyX1_ok nmX1 hW rfl 2 (Nat.le_of_ble_eq_true rfl) f18 rfl rfl rfl rfl (Nat.le_of_ble_eq_true rfl) (fs' := [.int 0, .int 0, .int 1, .int 0, .int 0, .int 0, .int 0, .int 0, .null, .null, .null, .null, .null, .null, .null, .null]) rfl dX1_init_16 (fun H locs hW => ?_)
  refine lv_aload_n hx hb dX1_init_19 rfl (lv_at hl 0 rfl) ?_
  refine lv_iconst (v := 1) hx hb dX1_init_20 (by decide +kernel) ?_
  refine wa_puth hC i1 tyX1_ok nmX1 hW rfl 3 (Nat.le_of_ble_eq_true rfl) f22 rfl rfl rfl rfl (Nat.le_of_ble_eq_true rfl) (fs' := [.int 0, .int 0, .int 1, .int 1, .int 0, .int 0, .int 0, .int 0, .null, .null, .null, .null, .null, .null, .null, .null]) rfl dX1_init_21 (fun H locs hW => ?_)
  refine lv_aload_n hx hb dX1_init_24 rfl (lv_at hl 0 rfl) ?_
  refine lv_iconst (v := 0) hx hb dX1_init_25 (by decide +kernel) ?_
  refine wa_puth hC i1 tyX1_ok nmX1 hW rfl 4 (Nat.le_of_ble_eq_true rfl) f25 rfl rfl rfl rfl (Nat.le_of_ble_eq_true rfl) (fs' := [.int 0, .int 0, .int 1, .int 1, .int 0, .int 0, .int 0, .int 0, .null, .null, .null, .null, .null, .null, .null, .null]) rfl dX1_init_26 (fun H locs hW => ?_)
  refine lv_aload_n hx hb dX1_init_29 rfl (lv_at hl 0 rfl) ?_
  refine lv_iconst (v := 0) hx hb dX1_init_30 (by decide +kernel) ?_
  refine wa_puth hC i1 tyX1_ok nmX1 hW rfl 5 (Nat.le_of_ble_eq_true rfl) f28 rfl rfl rfl rfl (Nat.le_of_ble_eq_true rfl) (fs' := [.int 0, .int 0, .int 1, .int 1, .int 0, .int 0, .int 0, .int 0, .null, .null, .null, .null, .null, .null, .null, .null]) rfl dX1_init_31 (fun H locs hW => ?_)
  refine lv_aload_n hx hb dX1_init_34 rfl (lv_at hl 0 rfl) ?_
  refine lv_iconst (v := 0) hx hb dX1_init_35 (by decide +kernel) ?_
  refine wa_puth hC i1 tyX1_ok nmX1 hW rfl 6 (Nat.le_of_ble_eq_true rfl) f31 rfl rfl rfl rfl (Nat.le_of_ble_eq_true rfl) (fs' := [.int 0, .int 0, .int 1, .int 1, .int 0, .int 0, .int 0, .int 0, .null, .null, .null, .null, .null, .null, .null, .null]) rfl dX1_init_36 (fun H locs hW => ?_)
  refine lv_aload_n hx hb dX1_init_39 rfl (lv_at hl 0 rfl) ?_
  refine lv_iconst (v := 0) hx hb dX1_init_40 (by decide +kernel) ?_
  refine wa_puth hC i1 tyX1_ok nmX1 hW rfl 7 (Nat.le_of_ble_eq_true rfl) f34 rfl rfl rfl rfl (Nat.le_of_ble_eq_true rfl) (fs' := [.int 0, .int 0, .int 1, .int 1, .int 0, .int 0, .int 0, .int 0, .null, .null, .null, .null, .null, .null, .null, .null]) rfl dX1_init_41 (fun H locs hW => ?_)
  refine lv_aload_n hx hb dX1_init_44 rfl (lv_at hl 0 rfl) ?_
  refine lv_bipush (v := 41) hx hb dX1_init_45 (by decide +kernel) ?_
  refine wa_newah (atype := .int) hC aint rfl 0 rfl (fun C h => by cases h) hW 41 (41, .inl (fun _ => 0)) (ha_int 41) (by decide +kernel) (by decide +kernel) (by decide +kernel) (by decide +kernel) (by decide +kernel) dX1_init_47 (fun q1 H hW => ?_)
  have hW : Wd D cy A s ((_ :: [(q1, .inl (cy 0, 41, .inl (fun _ => 0)))]) ++ X) H _ := hW
  refine wa_putFh hC i1 tyX1_ok nmX1 hW rfl 8 (Nat.le_of_ble_eq_true rfl) f37 rfl rfl hnm rfl rfl (Nat.le_of_ble_eq_true rfl) (fs' := [.int 0, .int 0, .int 1, .int 1, .int 0, .int 0, .int 0, .int 0, .ref q1, .null, .null, .null, .null, .null, .null, .null]) rfl dX1_init_49 (fun H locs hW => ?_)
  refine lv_aload_n hx hb dX1_init_52 rfl (lv_at hl 0 rfl) ?_
  refine lv_bipush (v := 41) hx hb dX1_init_53 (by decide +kernel) ?_
  refine wa_newah (atype := .int) hC aint rfl 0 rfl (fun C h => by cases h) hW 41 (41, .inl (fun _ => 0)) (ha_int 41) (by decide +kernel) (by decide +kernel) (by decide +kernel) (by decide +kernel) (by decide +kernel) dX1_init_55 (fun q2 H hW => ?_)
  have hW : Wd D cy A s ((_ :: [(q1, .inl (cy 0, 41, .inl (fun _ => 0))), (q2, .inl (cy 0, 41, .inl (fun _ => 0)))]) ++ X) H _ := hW
  refine wa_putFh hC i1 tyX1_ok nmX1 hW rfl 9 (Nat.le_of_ble_eq_true rfl) f41 rfl rfl hnm rfl rfl (Nat.le_of_ble_eq_true rfl) (fs' := [.int 0, .int 0, .int 1, .int 1, .int 0, .int 0, .int 0, .int 0, .ref q1, .ref q2, .null, .null, .null, .null, .null, .null]) rfl dX1_init_57 (fun H locs hW => ?_)
  refine lv_aload_n hx hb dX1_init_60 rfl (lv_at hl 0 rfl) ?_
  refine lv_sipush (v := 1681) hx hb dX1_init_61 (by decide +kernel) ?_
  refine wa_newah (atype := .int) hC aint rfl 0 rfl (fun C h => by cases h) hW 1681 (1681, .inl (fun _ => 0)) (ha_int 1681) (by decide +kernel) (by decide +kernel) (by decide +kernel) (by decide +kernel) (by decide +kernel) dX1_init_64 (fun q3 H hW => ?_)
  have hW : Wd D cy A s ((_ :: [(q1, .inl (cy 0, 41, .inl (fun _ => 0))), (q2, .inl (cy 0, 41, .inl (fun _ => 0))), (q3, .inl (cy 0, 1681, .inl (fun _ => 0)))]) ++ X) H _ := hW
  refine wa_putFh hC i1 tyX1_ok nmX1 hW rfl 10 (Nat.le_of_ble_eq_true rfl) f44 rfl rfl hnm rfl rfl (Nat.le_of_ble_eq_true rfl) (fs' := [.int 0, .int 0, .int 1, .int 1, .int 0, .int 0, .int 0, .int 0, .ref q1, .ref q2, .ref q3, .null, .null, .null, .null, .null]) rfl dX1_init_66 (fun H locs hW => ?_)
  refine lv_aload_n hx hb dX1_init_69 rfl (lv_at hl 0 rfl) ?_
  refine lv_sipush (v := 1681) hx hb dX1_init_70 (by decide +kernel) ?_
  refine wa_newah (atype := .int) hC aint rfl 0 rfl (fun C h => by cases h) hW 1681 (1681, .inl (fun _ => 0)) (ha_int 1681) (by decide +kernel) (by decide +kernel) (by decide +kernel) (by decide +kernel) (by decide +kernel) dX1_init_73 (fun q4 H hW => ?_)
  have hW : Wd D cy A s ((_ :: [(q1, .inl (cy 0, 41, .inl (fun _ => 0))), (q2, .inl (cy 0, 41, .inl (fun _ => 0))), (q3, .inl (cy 0, 1681, .inl (fun _ => 0))), (q4, .inl (cy 0, 1681, .inl (fun _ => 0)))]) ++ X) H _ := hW
  refine wa_putFh hC i1 tyX1_ok nmX1 hW rfl 11 (Nat.le_of_ble_eq_true rfl) f47 rfl rfl hnm rfl rfl (Nat.le_of_ble_eq_true rfl) (fs' := [.int 0, .int 0, .int 1, .int 1, .int 0, .int 0, .int 0, .int 0, .ref q1, .ref q2, .ref q3, .ref q4, .null, .null, .null, .null]) rfl dX1_init_75 (fun H locs hW => ?_)
  refine lv_aload_n hx hb dX1_init_78 rfl (lv_at hl 0 rfl) ?_
  refine lv_sipush (v := 1681) hx hb dX1_init_79 (by decide +kernel) ?_
  refine wa_newah (atype := .int) hC aint rfl 0 rfl (fun C h => by cases h) hW 1681 (1681, .inl (fun _ => 0)) (ha_int 1681) (by decide +kernel) (by decide +kernel) (by decide +kernel) (by decide +kernel) (by decide +kernel) dX1_init_82 (fun q5 H hW => ?_)
  have hW : Wd D cy A s ((_ :: [(q1, .inl (cy 0, 41, .inl (fun _ => 0))), (q2, .inl (cy 0, 41, .inl (fun _ => 0))), (q3, .inl (cy 0, 1681, .inl (fun _ => 0))), (q4, .inl (cy 0, 1681, .inl (fun _ => 0))), (q5, .inl (cy 0, 1681, .inl (fun _ => 0)))]) ++ X) H _ := hW
  refine wa_putFh hC i1 tyX1_ok nmX1 hW rfl 12 (Nat.le_of_ble_eq_true rfl) f50 rfl rfl hnm rfl rfl (Nat.le_of_ble_eq_true rfl) (fs' := [.int 0, .int 0, .int 1, .int 1, .int 0, .int 0, .int 0, .int 0, .ref q1, .ref q2, .ref q3, .ref q4, .ref q5, .null, .null, .null]) rfl dX1_init_84 (fun H locs hW => ?_)
  refine lv_aload_n hx hb dX1_init_87 rfl (lv_at hl 0 rfl) ?_
  refine lv_sipush (v := 1681) hx hb dX1_init_88 (by decide +kernel) ?_
  refine wa_newah (atype := .int) hC aint rfl 0 rfl (fun C h => by cases h) hW 1681 (1681, .inl (fun _ => 0)) (ha_int 1681) (by decide +kernel) (by decide +kernel) (by decide +kernel) (by decide +kernel) (by decide +kernel) dX1_init_91 (fun q6 H hW => ?_)
  have hW : Wd D cy A s ((_ :: [(q1, .inl (cy 0, 41, .inl (fun _ => 0))), (q2, .inl (cy 0, 41, .inl (fun _ => 0))), (q3, .inl (cy 0, 1681, .inl (fun _ => 0))), (q4, .inl (cy 0, 1681, .inl (fun _ => 0))), (q5, .inl (cy 0, 1681, .inl (fun _ => 0))), (q6, .inl (cy 0, 1681, .inl (fun _ => 0)))]) ++ X) H _ := hW
  refine wa_putFh hC i1 tyX1_ok nmX1 hW rfl 13 (Nat.le_of_ble_eq_true rfl) f53 rfl rfl hnm rfl rfl (Nat.le_of_ble_eq_true rfl) (fs' := [.int 0, .int 0, .int 1, .int 1, .int 0, .int 0, .int 0, .int 0, .ref q1, .ref q2, .ref q3, .ref q4, .ref q5, .ref q6, .null, .null]) rfl dX1_init_93 (fun H locs hW => ?_)
  refine lv_aload_n hx hb dX1_init_96 rfl (lv_at hl 0 rfl) ?_
  refine lv_sipush (v := 15129) hx hb dX1_init_97 (by decide +kernel) ?_
  refine wa_newah (atype := .int) hC aint rfl 0 rfl (fun C h => by cases h) hW 15129 (15129, .inl (fun _ => 0)) (ha_int 15129) (by decide +kernel) (by decide +kernel) (by decide +kernel) (by decide +kernel) (by decide +kernel) dX1_init_100 (fun q7 H hW => ?_)
  have hW : Wd D cy A s ((_ :: [(q1, .inl (cy 0, 41, .inl (fun _ => 0))), (q2, .inl (cy 0, 41, .inl (fun _ => 0))), (q3, .inl (cy 0, 1681, .inl (fun _ => 0))), (q4, .inl (cy 0, 1681, .inl (fun _ => 0))), (q5, .inl (cy 0, 1681, .inl (fun _ => 0))), (q6, .inl (cy 0, 1681, .inl (fun _ => 0))), (q7, .inl (cy 0, 15129, .inl (fun _ => 0)))]) ++ X) H _ := hW
  refine wa_putFh hC i1 tyX1_ok nmX1 hW rfl 14 (Nat.le_of_ble_eq_true rfl) f56 rfl rfl hnm rfl rfl (Nat.le_of_ble_eq_true rfl) (fs' := [.int 0, .int 0, .int 1, .int 1, .int 0, .int 0, .int 0, .int 0, .ref q1, .ref q2, .ref q3, .ref q4, .ref q5, .ref q6, .ref q7, .null]) rfl dX1_init_102 (fun H locs hW => ?_)
  refine lv_aload_n hx hb dX1_init_105 rfl (lv_at hl 0 rfl) ?_
  refine lv_bipush (v := 41) hx hb dX1_init_106 (by decide +kernel) ?_
  refine wa_newah (atype := .int) hC aint rfl 0 rfl (fun C h => by cases h) hW 41 (41, .inl (fun _ => 0)) (ha_int 41) (by decide +kernel) (by decide +kernel) (by decide +kernel) (by decide +kernel) (by decide +kernel) dX1_init_108 (fun q8 H hW => ?_)
  have hW : Wd D cy A s ((_ :: [(q1, .inl (cy 0, 41, .inl (fun _ => 0))), (q2, .inl (cy 0, 41, .inl (fun _ => 0))), (q3, .inl (cy 0, 1681, .inl (fun _ => 0))), (q4, .inl (cy 0, 1681, .inl (fun _ => 0))), (q5, .inl (cy 0, 1681, .inl (fun _ => 0))), (q6, .inl (cy 0, 1681, .inl (fun _ => 0))), (q7, .inl (cy 0, 15129, .inl (fun _ => 0))), (q8, .inl (cy 0, 41, .inl (fun _ => 0)))]) ++ X) H _ := hW
  refine wa_putFh hC i1 tyX1_ok nmX1 hW rfl 15 (Nat.le_of_ble_eq_true rfl) f59 rfl rfl hnm rfl rfl (Nat.le_of_ble_eq_true rfl) (fs' := [.int 0, .int 0, .int 1, .int 1, .int 0, .int 0, .int 0, .int 0, .ref q1, .ref q2, .ref q3, .ref q4, .ref q5, .ref q6, .ref q7, .ref q8]) rfl dX1_init_110 (fun H locs hW => ?_)
  exact wa_vret hA hQ hC hr hk hW ⟨rfl, q1, q2, q3, q4, q5, q6, q7, q8, rfl⟩ (by decide +kernel) (by decide +kernel) dX1_init_113
set_option maxHeartbeats 4000000 in
set_option maxRecDepth 100000 in
theorem c_X2_init (l : Launch) (D : va_G) (cy : Nat → ClassId) (X : va_W) (h0 : Nat) : CTa l yX2_init (wu yX2_init cX2_init 1 none) 1 21 3294 D cy [.ref h0] ([(h0, .inr (2, [.int 0, .int 0, .null, .null, .null, .int 0, .int 0, .null, .null, .null, .null, .null]))] ++ X) (fun r w' => r = none ∧ ∃ (q1 : Nat) (r1 : Nat → Nat) (q2 : Nat) (q3 : Nat) (r3 : Nat → Nat) (q4 : Nat) (q5 : Nat) (q6 : Nat) (q7 : Nat) (q8 : Nat), w' = [(h0, .inr (2, [.int 0, .int 0, .ref q1, .ref q2, .ref q3, .int 0, .int 0, .ref q4, .ref q5, .ref q6, .ref q7, .ref q8])), (q1, .inl (cy 5, 9, .inr (.inr (.inr (.inr (fun i => some (r1 i))))))), (r1 0, .inl (cy 0, 42, .inl (fun _ => 0))), (r1 1, .inl (cy 0, 42, .inl (fun _ => 0))), (r1 2, .inl (cy 0, 42, .inl (fun _ => 0))), (r1 3, .inl (cy 0, 42, .inl (fun _ => 0))), (r1 4, .inl (cy 0, 42, .inl (fun _ => 0))), (r1 5, .inl (cy 0, 42, .inl (fun _ => 0))), (r1 6, .inl (cy 0, 42, .inl (fun _ => 0))), (r1 7, .inl (cy 0, 42, .inl (fun _ => 0))), (r1 8, .inl (cy 0, 42, .inl (fun _ => 0))), (q2, .inl (cy 0, 3, .inl (fun _ => 0))), (q3, .inl (cy 5, 4, .inr (.inr (.inr (.inr (fun i => some (r3 i))))))), (r3 0, .inl (cy 0, 242, .inl (fun _ => 0))), (r3 1, .inl (cy 0, 242, .inl (fun _ => 0))), (r3 2, .inl (cy 0, 242, .inl (fun _ => 0))), (r3 3, .inl (cy 0, 242, .inl (fun _ => 0))), (q4, .inl (cy 0, 42, .inl (fun _ => 0))), (q5, .inl (cy 0, 1764, .inl (fun _ => 0))), (q6, .inl (cy 0, 42, .inl (fun _ => 0))), (q7, .inl (cy 0, 42, .inl (fun _ => 0))), (q8, .inl (cy 0, 42, .inl (fun _ => 0)))] ++ X) := by
  refine CTa.mk (cc := cX2_init) (maxL := 1) (ret := none) (own := RX2) (by decide) rfl rfl (Nat.le_of_ble_eq_true rfl) ?_
  intro p e s m args below meth c ls A Q hA hQ hC hr hk hnm hW hl
  have hx := hC.1
  have hb := hC.2.1
  have hown := hC.2.2.2.1
  have hts := hC.2.2.2.2
  have hnm : meth.name = "<init>" := hnm
  have hl : lv_has ls 1 [(0, .ref h0)] := hl
  have oi := hts _ (wu_in w_35_9)
  have on := hts _ (wu_in w_1_11)
  have oc := hts _ (wu_in w_1_12)
  have i2 := (fun w h => wu_in (inc_2 w h) : ∀ w ∈ u_ws RX2 TX2 12, w ∈ (wu yX2_init cX2_init 1 none))
  have f9 := hts _ (wu_in w_35_10)
  have f15 := hts _ (wu_in w_35_11)
  have g18 := hts _ (wu_in w_35_12)
  have aint := hts _ (wu_in w_2_15)
  have f20 := hts _ (wu_in w_35_13)
  have f23 := hts _ (wu_in w_35_14)
  have f27 := hts _ (wu_in w_35_15)
  have f30 := hts _ (wu_in w_35_16)
  have f33 := hts _ (wu_in w_35_17)
  have f36 := hts _ (wu_in w_35_18)
  have f39 := hts _ (wu_in w_35_19)
  have f42 := hts _ (wu_in w_35_20)
  have f45 := hts _ (wu_in w_35_21)
  have f48 := hts _ (wu_in w_35_22)
  have hW : Wd D cy A s (((h0, .inr (2, [.int 0, .int 0, .null, .null, .null, .int 0, .int 0, .null, .null, .null, .null, .null])) :: []) ++ X) s.heap [] := hW
  refine lv_aload_n hx hb dX2_init_0 rfl (lv_at hl 0 rfl) ?_
  refine W.objInit hx hb hown oi on oc rfl (hl.1.trans hC.2.2.1.symm) rfl dX2_init_1 (Nat.le_of_ble_eq_true rfl) (Nat.le_of_ble_eq_true rfl) ?_
  refine W.eq (g2 := F0 m 4 ls []) rfl ?_
  refine lv_aload_n hx hb dX2_init_4 rfl (lv_at hl 0 rfl) ?_
  refine lv_iconst (v := 0) hx hb dX2_init_5 (by decide +kernel) ?_
  refine wa_puth hC i2 tyX2_ok nmX2 hW rfl 0 (Nat.le_of_ble_eq_true rfl) f9 rfl rfl rfl rfl (Nat.le_of_ble_eq_true rfl) (fs' := [.int 0, .int 0, .null, .null, .null, .int 0, .int 0, .null, .null, .null, .null, .null]) rfl dX2_init_6 (fun H locs hW => ?_)
  refine lv_aload_n hx hb dX2_init_9 rfl (lv_at hl 0 rfl) ?_
  refine lv_iconst (v := 0) hx hb dX2_init_10 (by decide +kernel) ?_
  refine wa_puth hC i2 tyX2_ok nmX2 hW rfl 1 (Nat.le_of_ble_eq_true rfl) f15 rfl rfl rfl rfl (Nat.le_of_ble_eq_true rfl) (fs' := [.int 0, .int 0, .null, .null, .null, .int 0, .int 0, .null, .null, .null, .null, .null]) rfl dX2_init_11 (fun H locs hW => ?_)
  refine lv_aload_n hx hb dX2_init_14 rfl (lv_at hl 0 rfl) ?_
  refine lv_bipush (v := 9) hx hb dX2_init_15 (by decide +kernel) ?_
  refine lv_bipush (v := 42) hx hb dX2_init_17 (by decide +kernel) ?_
  refine wa_mnah hC g18 aint hW 9 42 (by decide +kernel) (by decide +kernel) (by decide +kernel) (by decide +kernel) (by decide +kernel) (by decide +kernel) (by decide +kernel) (by decide +kernel) dX2_init_19 (fun q1 r1 H hW => ?_)
  have hW : Wd D cy A s ((_ :: [(q1, .inl (cy 5, 9, .inr (.inr (.inr (.inr (fun i => some (r1 i))))))), (r1 0, .inl (cy 0, 42, .inl (fun _ => 0))), (r1 1, .inl (cy 0, 42, .inl (fun _ => 0))), (r1 2, .inl (cy 0, 42, .inl (fun _ => 0))), (r1 3, .inl (cy 0, 42, .inl (fun _ => 0))), (r1 4, .inl (cy 0, 42, .inl (fun _ => 0))), (r1 5, .inl (cy 0, 42, .inl (fun _ => 0))), (r1 6, .inl (cy 0, 42, .inl (fun _ => 0))), (r1 7, .inl (cy 0, 42, .inl (fun _ => 0))), (r1 8, .inl (cy 0, 42, .inl (fun _ => 0)))]) ++ X) H _ := hW
  refine wa_putFh hC i2 tyX2_ok nmX2 hW rfl 2 (Nat.le_of_ble_eq_true rfl) f20 rfl rfl hnm rfl rfl (Nat.le_of_ble_eq_true rfl) (fs' := [.int 0, .int 0, .ref q1, .null, .null, .int 0, .int 0, .null, .null, .null, .null, .null]) rfl dX2_init_23 (fun H locs hW => ?_)
  refine lv_aload_n hx hb dX2_init_26 rfl (lv_at hl 0 rfl) ?_
  refine lv_iconst (v := 3) hx hb dX2_init_27 (by decide +kernel) ?_
  refine wa_newah (atype := .int) hC aint rfl 0 rfl (fun C h => by cases h) hW 3 (3, .inl (fun _ => 0)) (ha_int 3) (by decide +kernel) (by decide +kernel) (by decide +kernel) (by decide +kernel) (by decide +kernel) dX2_init_28 (fun q2 H hW => ?_)
  have hW : Wd D cy A s ((_ :: [(q1, .inl (cy 5, 9, .inr (.inr (.inr (.inr (fun i => some (r1 i))))))), (r1 0, .inl (cy 0, 42, .inl (fun _ => 0))), (r1 1, .inl (cy 0, 42, .inl (fun _ => 0))), (r1 2, .inl (cy 0, 42, .inl (fun _ => 0))), (r1 3, .inl (cy 0, 42, .inl (fun _ => 0))), (r1 4, .inl (cy 0, 42, .inl (fun _ => 0))), (r1 5, .inl (cy 0, 42, .inl (fun _ => 0))), (r1 6, .inl (cy 0, 42, .inl (fun _ => 0))), (r1 7, .inl (cy 0, 42, .inl (fun _ => 0))), (r1 8, .inl (cy 0, 42, .inl (fun _ => 0))), (q2, .inl (cy 0, 3, .inl (fun _ => 0)))]) ++ X) H _ := hW
  refine wa_putFh hC i2 tyX2_ok nmX2 hW rfl 3 (Nat.le_of_ble_eq_true rfl) f23 rfl rfl hnm rfl rfl (Nat.le_of_ble_eq_true rfl) (fs' := [.int 0, .int 0, .ref q1, .ref q2, .null, .int 0, .int 0, .null, .null, .null, .null, .null]) rfl dX2_init_30 (fun H locs hW => ?_)
  refine lv_aload_n hx hb dX2_init_33 rfl (lv_at hl 0 rfl) ?_
  refine lv_iconst (v := 4) hx hb dX2_init_34 (by decide +kernel) ?_
  refine lv_sipush (v := 242) hx hb dX2_init_35 (by decide +kernel) ?_
  refine wa_mnah hC g18 aint hW 4 242 (by decide +kernel) (by decide +kernel) (by decide +kernel) (by decide +kernel) (by decide +kernel) (by decide +kernel) (by decide +kernel) (by decide +kernel) dX2_init_38 (fun q3 r3 H hW => ?_)
  have hW : Wd D cy A s ((_ :: [(q1, .inl (cy 5, 9, .inr (.inr (.inr (.inr (fun i => some (r1 i))))))), (r1 0, .inl (cy 0, 42, .inl (fun _ => 0))), (r1 1, .inl (cy 0, 42, .inl (fun _ => 0))), (r1 2, .inl (cy 0, 42, .inl (fun _ => 0))), (r1 3, .inl (cy 0, 42, .inl (fun _ => 0))), (r1 4, .inl (cy 0, 42, .inl (fun _ => 0))), (r1 5, .inl (cy 0, 42, .inl (fun _ => 0))), (r1 6, .inl (cy 0, 42, .inl (fun _ => 0))), (r1 7, .inl (cy 0, 42, .inl (fun _ => 0))), (r1 8, .inl (cy 0, 42, .inl (fun _ => 0))), (q2, .inl (cy 0, 3, .inl (fun _ => 0))), (q3, .inl (cy 5, 4, .inr (.inr (.inr (.inr (fun i => some (r3 i))))))), (r3 0, .inl (cy 0, 242, .inl (fun _ => 0))), (r3 1, .inl (cy 0, 242, .inl (fun _ => 0))), (r3 2, .inl (cy 0, 242, .inl (fun _ => 0))), (r3 3, .inl (cy 0, 242, .inl (fun _ => 0)))]) ++ X) H _ := hW
  refine wa_putFh hC i2 tyX2_ok nmX2 hW rfl 4 (Nat.le_of_ble_eq_true rfl) f27 rfl rfl hnm rfl rfl (Nat.le_of_ble_eq_true rfl) (fs' := [.int 0, .int 0, .ref q1, .ref q2, .ref q3, .int 0, .int 0, .null, .null, .null, .null, .null]) rfl dX2_init_42 (fun H locs hW => ?_)
  refine lv_aload_n hx hb dX2_init_45 rfl (lv_at hl 0 rfl) ?_
  refine lv_iconst (v := 0) hx hb dX2_init_46 (by decide +kernel) ?_
  refine wa_puth hC i2 tyX2_ok nmX2 hW rfl 5 (Nat.le_of_ble_eq_true rfl) f30 rfl rfl rfl rfl (Nat.le_of_ble_eq_true rfl) (fs' := [.int 0, .int 0, .ref q1, .ref q2, .ref q3, .int 0, .int 0, .null, .null, .null, .null, .null]) rfl dX2_init_47 (fun H locs hW => ?_)
  refine lv_aload_n hx hb dX2_init_50 rfl (lv_at hl 0 rfl) ?_
  refine lv_iconst (v := 0) hx hb dX2_init_51 (by decide +kernel) ?_
  refine wa_puth hC i2 tyX2_ok nmX2 hW rfl 6 (Nat.le_of_ble_eq_true rfl) f33 rfl rfl rfl rfl (Nat.le_of_ble_eq_true rfl) (fs' := [.int 0, .int 0, .ref q1, .ref q2, .ref q3, .int 0, .int 0, .null, .null, .null, .null, .null]) rfl dX2_init_52 (fun H locs hW => ?_)
  refine lv_aload_n hx hb dX2_init_55 rfl (lv_at hl 0 rfl) ?_
  refine lv_bipush (v := 42) hx hb dX2_init_56 (by decide +kernel) ?_
  refine wa_newah (atype := .int) hC aint rfl 0 rfl (fun C h => by cases h) hW 42 (42, .inl (fun _ => 0)) (ha_int 42) (by decide +kernel) (by decide +kernel) (by decide +kernel) (by decide +kernel) (by decide +kernel) dX2_init_58 (fun q4 H hW => ?_)
  have hW : Wd D cy A s ((_ :: [(q1, .inl (cy 5, 9, .inr (.inr (.inr (.inr (fun i => some (r1 i))))))), (r1 0, .inl (cy 0, 42, .inl (fun _ => 0))), (r1 1, .inl (cy 0, 42, .inl (fun _ => 0))), (r1 2, .inl (cy 0, 42, .inl (fun _ => 0))), (r1 3, .inl (cy 0, 42, .inl (fun _ => 0))), (r1 4, .inl (cy 0, 42, .inl (fun _ => 0))), (r1 5, .inl (cy 0, 42, .inl (fun _ => 0))), (r1 6, .inl (cy 0, 42, .inl (fun _ => 0))), (r1 7, .inl (cy 0, 42, .inl (fun _ => 0))), (r1 8, .inl (cy 0, 42, .inl (fun _ => 0))), (q2, .inl (cy 0, 3, .inl (fun _ => 0))), (q3, .inl (cy 5, 4, .inr (.inr (.inr (.inr (fun i => some (r3 i))))))), (r3 0, .inl (cy 0, 242, .inl (fun _ => 0))), (r3 1, .inl (cy 0, 242, .inl (fun _ => 0))), (r3 2, .inl (cy 0, 242, .inl (fun _ => 0))), (r3 3, .inl (cy 0, 242, .inl (fun _ => 0))), (q4, .inl (cy 0, 42, .inl (fun _ => 0)))]) ++ X) H _ := hW
  refine wa_putFh hC i2 tyX2_ok nmX2 hW rfl 7 (Nat.le_of_ble_eq_true rfl) f36 rfl rfl hnm rfl rfl (Nat.le_of_ble_eq_true rfl) (fs' := [.int 0, .int 0, .ref q1, .ref q2, .ref q3, .int 0, .int 0, .ref q4, .null, .null, .null, .null]) rfl dX2_init_60 (fun H locs hW => ?_)
  refine lv_aload_n hx hb dX2_init_63 rfl (lv_at hl 0 rfl) ?_
  refine lv_sipush (v := 1764) hx hb dX2_init_64 (by decide +kernel) ?_
  refine wa_newah (atype := .int) hC aint rfl 0 rfl (fun C h => by cases h) hW 1764 (1764, .inl (fun _ => 0)) (ha_int 1764) (by decide +kernel) (by decide +kernel) (by decide +kernel) (by decide +kernel) (by decide +kernel) dX2_init_67 (fun q5 H hW => ?_)
  have hW : Wd D cy A s ((_ :: [(q1, .inl (cy 5, 9, .inr (.inr (.inr (.inr (fun i => some (r1 i))))))), (r1 0, .inl (cy 0, 42, .inl (fun _ => 0))), (r1 1, .inl (cy 0, 42, .inl (fun _ => 0))), (r1 2, .inl (cy 0, 42, .inl (fun _ => 0))), (r1 3, .inl (cy 0, 42, .inl (fun _ => 0))), (r1 4, .inl (cy 0, 42, .inl (fun _ => 0))), (r1 5, .inl (cy 0, 42, .inl (fun _ => 0))), (r1 6, .inl (cy 0, 42, .inl (fun _ => 0))), (r1 7, .inl (cy 0, 42, .inl (fun _ => 0))), (r1 8, .inl (cy 0, 42, .inl (fun _ => 0))), (q2, .inl (cy 0, 3, .inl (fun _ => 0))), (q3, .inl (cy 5, 4, .inr (.inr (.inr (.inr (fun i => some (r3 i))))))), (r3 0, .inl (cy 0, 242, .inl (fun _ => 0))), (r3 1, .inl (cy 0, 242, .inl (fun _ => 0))), (r3 2, .inl (cy 0, 242, .inl (fun _ => 0))), (r3 3, .inl (cy 0, 242, .inl (fun _ => 0))), (q4, .inl (cy 0, 42, .inl (fun _ => 0))), (q5, .inl (cy 0, 1764, .inl (fun _ => 0)))]) ++ X) H _ := hW
  refine wa_putFh hC i2 tyX2_ok nmX2 hW rfl 8 (Nat.le_of_ble_eq_true rfl) f39 rfl rfl hnm rfl rfl (Nat.le_of_ble_eq_true rfl) (fs' := [.int 0, .int 0, .ref q1, .ref q2, .ref q3, .int 0, .int 0, .ref q4, .ref q5, .null, .null, .null]) rfl dX2_init_69 (fun H locs hW => ?_)
  refine lv_aload_n hx hb dX2_init_72 rfl (lv_at hl 0 rfl) ?_
  refine lv_bipush (v := 42) hx hb dX2_init_73 (by decide +kernel) ?_
  refine wa_newah (atype := .int) hC aint rfl 0 rfl (fun C h => by cases h) hW 42 (42, .inl (fun _ => 0)) (ha_int 42) (by decide +kernel) (by decide +kernel) (by decide +kernel) (by decide +kernel) (by decide +kernel) dX2_init_75 (fun q6 H hW => ?_)
  have hW : Wd D cy A s ((_ :: [(q1, .inl (cy 5, 9, .inr (.inr (.inr (.inr (fun i => some (r1 i))))))), (r1 0, .inl (cy 0, 42, .inl (fun _ => 0))), (r1 1, .inl (cy 0, 42, .inl (fun _ => 0))), (r1 2, .inl (cy 0, 42, .inl (fun _ => 0))), (r1 3, .inl (cy 0, 42, .inl (fun _ => 0))), (r1 4, .inl (cy 0, 42, .inl (fun _ => 0))), (r1 5, .inl (cy 0, 42, .inl (fun _ => 0))), (r1 6, .inl (cy 0, 42, .inl (fun _ => 0))), (r1 7, .inl (cy 0, 42, .inl (fun _ => 0))), (r1 8, .inl (cy 0, 42, .inl (fun _ => 0))), (q2, .inl (cy 0, 3, .inl (fun _ => 0))), (q3, .inl (cy 5, 4, .inr (.inr (.inr (.inr (fun i => some (r3 i))))))), (r3 0, .inl (cy 0, 242, .inl (fun _ => 0))), (r3 1, .inl (cy 0, 242, .inl (fun _ => 0))), (r3 2, .inl (cy 0, 242, .inl (fun _ => 0))), (r3 3, .inl (cy 0, 242, .inl (fun _ => 0))), (q4, .inl (cy 0, 42, .inl (fun _ => 0))), (q5, .inl (cy 0, 1764, .inl (fun _ => 0))), (q6, .inl (cy 0, 42, .inl (fun _ => 0)))]) ++ X) H _ := hW
  refine wa_putFh hC i2 tyX2_ok nmX2 hW rfl 9 (Nat.le_of_ble_eq_true rfl) f42 rfl rfl hnm rfl rfl (Nat.le_of_ble_eq_true rfl) (fs' := [.int 0, .int 0, .ref q1, .ref q2, .ref q3, .int 0, .int 0, .ref q4, .ref q5, .ref q6, .null, .null]) rfl dX2_init_77 (fun H locs hW => ?_)
  refine lv_aload_n hx hb dX2_init_80 rfl (lv_at hl 0 rfl) ?_
  refine lv_bipush (v := 42) hx hb dX2_init_81 (by decide +kernel) ?_
  refine wa_newah (atype := .int) hC aint rfl 0 rfl (fun C h => by cases h) hW 42 (42, .inl (fun _ => 0)) (ha_int 42) (by decide +kernel) (by decide +kernel) (by decide +kernel) (by decide +kernel) (by decide +kernel) dX2_init_83 (fun q7 H hW => ?_)
  have hW : Wd D cy A s ((_ :: [(q1, .inl (cy 5, 9, .inr (.inr (.inr (.inr (fun i => some (r1 i))))))), (r1 0, .inl (cy 0, 42, .inl (fun _ => 0))), (r1 1, .inl (cy 0, 42, .inl (fun _ => 0))), (r1 2, .inl (cy 0, 42, .inl (fun _ => 0))), (r1 3, .inl (cy 0, 42, .inl (fun _ => 0))), (r1 4, .inl (cy 0, 42, .inl (fun _ => 0))), (r1 5, .inl (cy 0, 42, .inl (fun _ => 0))), (r1 6, .inl (cy 0, 42, .inl (fun _ => 0))), (r1 7, .inl (cy 0, 42, .inl (fun _ => 0))), (r1 8, .inl (cy 0, 42, .inl (fun _ => 0))), (q2, .inl (cy 0, 3, .inl (fun _ => 0))), (q3, .inl (cy 5, 4, .inr (.inr (.inr (.inr (fun i => some (r3 i))))))), (r3 0, .inl (cy 0, 242, .inl (fun _ => 0))), (r3 1, .inl (cy 0, 242, .inl (fun _ => 0))), (r3 2, .inl (cy 0, 242, .inl (fun _ => 0))), (r3 3, .inl (cy 0, 242, .inl (fun _ => 0))), (q4, .inl (cy 0, 42, .inl (fun _ => 0))), (q5, .inl (cy 0, 1764, .inl (fun _ => 0))), (q6, .inl (cy 0, 42, .inl (fun _ => 0))), (q7, .inl (cy 0, 42, .inl (fun _ => 0)))]) ++ X) H _ := hW
  refine wa_putFh hC i2 tyX2_ok nmX2 hW rfl 10 (Nat.le_of_ble_eq_true rfl) f45 rfl rfl hnm rfl rfl (Nat.le_of_ble_eq_true rfl) (fs' := [.int 0, .int 0, .ref q1, .ref q2, .ref q3, .int 0, .int 0, .ref q4, .ref q5, .ref q6, .ref q7, .null]) rfl dX2_init_85 (fun H locs hW => ?_)
  refine lv_aload_n hx hb dX2_init_88 rfl (lv_at hl 0 rfl) ?_
  refine lv_bipush (v := 42) hx hb dX2_init_89 (by decide +kernel) ?_
  refine wa_newah (atype := .int) hC aint rfl 0 rfl (fun C h => by cases h) hW 42 (42, .inl (fun _ => 0)) (ha_int 42) (by decide +kernel) (by decide +kernel) (by decide +kernel) (by decide +kernel) (by decide +kernel) dX2_init_91 (fun q8 H hW => ?_)
  have hW : Wd D cy A s ((_ :: [(q1, .inl (cy 5, 9, .inr (.inr (.inr (.inr (fun i => some (r1 i))))))), (r1 0, .inl (cy 0, 42, .inl (fun _ => 0))), (r1 1, .inl (cy 0, 42, .inl (fun _ => 0))), (r1 2, .inl (cy 0, 42, .inl (fun _ => 0))), (r1 3, .inl (cy 0, 42, .inl (fun _ => 0))), (r1 4, .inl (cy 0, 42, .inl (fun _ => 0))), (r1 5, .inl (cy 0, 42, .inl (fun _ => 0))), (r1 6, .inl (cy 0, 42, .inl (fun _ => 0))), (r1 7, .inl (cy 0, 42, .inl (fun _ => 0))), (r1 8, .inl (cy 0, 42, .inl (fun _ => 0))), (q2, .inl (cy 0, 3, .inl (fun _ => 0))), (q3, .inl (cy 5, 4, .inr (.inr (.inr (.inr (fun i => some (r3 i))))))), (r3 0, .inl (cy 0, 242, .inl (fun _ => 0))), (r3 1, .inl (cy 0, 242, .inl (fun _ => 0))), (r3 2, .inl (cy 0, 242, .inl (fun _ => 0))), (r3 3, .inl (cy 0, 242, .inl (fun _ => 0))), (q4, .inl (cy 0, 42, .inl (fun _ => 0))), (q5, .inl (cy 0, 1764, .inl (fun _ => 0))), (q6, .inl (cy 0, 42, .inl (fun _ => 0))), (q7, .inl (cy 0, 42, .inl (fun _ => 0))), (q8, .inl (cy 0, 42, .inl (fun _ => 0)))]) ++ X) H _ := hW
  refine wa_putFh hC i2 tyX2_ok nmX2 hW rfl 11 (Nat.le_of_ble_eq_true rfl) f48 rfl rfl hnm rfl rfl (Nat.le_of_ble_eq_true rfl) (fs' := [.int 0, .int 0, .ref q1, .ref q2, .ref q3, .int 0, .int 0, .ref q4, .ref q5, .ref q6, .ref q7, .ref q8]) rfl dX2_init_93 (fun H locs hW => ?_)
  exact wa_vret hA hQ hC hr hk hW ⟨rfl, q1, r1, q2, q3, r3, q4, q5, q6, q7, q8, rfl⟩ (by decide +kernel) (by decide +kernel) dX2_init_96
set_option maxHeartbeats 4000000 in
set_option maxRecDepth 100000 in
theorem c_X3_init (l : Launch) (D : va_G) (cy : Nat → ClassId) (X : va_W) (h0 : Nat) : CTa l yX3_init (wu yX3_init cX3_init 1 none) 1 2 132 D cy [.ref h0] ([(h0, .inr (3, [.int 0, .int 0, .null, .null]))] ++ X) (fun r w' => r = none ∧ ∃ (q1 : Nat) (q2 : Nat), w' = [(h0, .inr (3, [.int 0, .int 0, .ref q1, .ref q2])), (q1, .inl (cy 0, 123, .inl (fun _ => 0))), (q2, .inl (cy 0, 9, .inl (fun _ => 0)))] ++ X) := by
  refine CTa.mk (cc := cX3_init) (maxL := 1) (ret := none) (own := RX3) (by decide) rfl rfl (Nat.le_of_ble_eq_true rfl) ?_
  intro p e s m args below meth c ls A Q hA hQ hC hr hk hnm hW hl
  have hx := hC.1
  have hb := hC.2.1
  have hown := hC.2.2.2.1
  have hts := hC.2.2.2.2
  have hnm : meth.name = "<init>" := hnm
  have hl : lv_has ls 1 [(0, .ref h0)] := hl
  have oi := hts _ (wu_in w_3_7)
  have on := hts _ (wu_in w_1_11)
  have oc := hts _ (wu_in w_1_12)
  have aint := hts _ (wu_in w_2_15)
  have i3 := (fun w h => wu_in (inc_3 w h) : ∀ w ∈ u_ws RX3 TX3 4, w ∈ (wu yX3_init cX3_init 1 none))
  have f9 := hts _ (wu_in w_3_8)
  have f15 := hts _ (wu_in w_3_9)
  have hW : Wd D cy A s (((h0, .inr (3, [.int 0, .int 0, .null, .null])) :: []) ++ X) s.heap [] := hW
  refine lv_aload_n hx hb dX3_init_0 rfl (lv_at hl 0 rfl) ?_
  refine W.objInit hx hb hown oi on oc rfl (hl.1.trans hC.2.2.1.symm) rfl dX3_init_1 (Nat.le_of_ble_eq_true rfl) (Nat.le_of_ble_eq_true rfl) ?_
  refine W.eq (g2 := F0 m 4 ls []) rfl ?_
  refine lv_aload_n hx hb dX3_init_4 rfl (lv_at hl 0 rfl) ?_
  refine lv_bipush (v := 123) hx hb dX3_init_5 (by decide +kernel) ?_
  refine wa_newah (atype := .int) hC aint rfl 0 rfl (fun C h => by cases h) hW 123 (123, .inl (fun _ => 0)) (ha_int 123) (by decide +kernel) (by decide +kernel) (by decide +kernel) (by decide +kernel) (by decide +kernel) dX3_init_7 (fun q1 H hW => ?_)
  have hW : Wd D cy A s ((_ :: [(q1, .inl (cy 0, 123, .inl (fun _ => 0)))]) ++ X) H _ := hW
  refine wa_putFh hC i3 tyX3_ok nmX3 hW rfl 2 (Nat.le_of_ble_eq_true rfl) f9 rfl rfl hnm rfl rfl (Nat.le_of_ble_eq_true rfl) (fs' := [.int 0, .int 0, .ref q1, .null]) rfl dX3_init_9 (fun H locs hW => ?_)
  refine lv_aload_n hx hb dX3_init_12 rfl (lv_at hl 0 rfl) ?_
  refine lv_bipush (v := 9) hx hb dX3_init_13 (by decide +kernel) ?_
  refine wa_newah (atype := .int) hC aint rfl 0 rfl (fun C h => by cases h) hW 9 (9, .inl (fun _ => 0)) (ha_int 9) (by decide +kernel) (by decide +kernel) (by decide +kernel) (by decide +kernel) (by decide +kernel) dX3_init_15 (fun q2 H hW => ?_)
  have hW : Wd D cy A s ((_ :: [(q1, .inl (cy 0, 123, .inl (fun _ => 0))), (q2, .inl (cy 0, 9, .inl (fun _ => 0)))]) ++ X) H _ := hW
  refine wa_putFh hC i3 tyX3_ok nmX3 hW rfl 3 (Nat.le_of_ble_eq_true rfl) f15 rfl rfl hnm rfl rfl (Nat.le_of_ble_eq_true rfl) (fs' := [.int 0, .int 0, .ref q1, .ref q2]) rfl dX3_init_17 (fun H locs hW => ?_)
  exact wa_vret hA hQ hC hr hk hW ⟨rfl, q1, q2, rfl⟩ (by decide +kernel) (by decide +kernel) dX3_init_20
set_option maxHeartbeats 4000000 in
set_option maxRecDepth 100000 in
theorem c_X4_init (l : Launch) (D : va_G) (cy : Nat → ClassId) (X : va_W) (h0 h1 : Nat) : CTa l yX4_init (wu yX4_init cX4_init 2 none) 1 8 270 D cy [.ref h0, .ref h1] ([(h0, .inr (4, [.null, .int 0, .int 0, .int 0, .int 0, .int 0, .null, .null, .null, .null, .null, .null, .null, .null, .int 0, .int 0]))] ++ X) (fun r w' => r = none ∧ ∃ (q1 : Nat) (q2 : Nat) (q3 : Nat) (q4 : Nat) (q5 : Nat) (q6 : Nat) (q7 : Nat) (q8 : Nat), w' = [(h0, .inr (4, [.ref h1, .int 0, .int 0, .int 0, .int 0, .int 0, .ref q1, .ref q2, .ref q3, .ref q4, .ref q5, .ref q6, .ref q7, .ref q8, .int 0, .int 0])), (q1, .inl (cy 0, 6, .inl (fun _ => 0))), (q2, .inl (cy 3, 6, .inl (fun _ => 0))), (q3, .inl (cy 0, 6, .inl (fun _ => 0))), (q4, .inl (cy 3, 6, .inl (fun _ => 0))), (q5, .inl (cy 0, 18, .inl (fun _ => 0))), (q6, .inl (cy 0, 6, .inl (fun _ => 0))), (q7, .inl (cy 0, 6, .inl (fun _ => 0))), (q8, .inl (cy 0, 216, .inl (fun _ => 0)))] ++ X) := by
  refine CTa.mk (cc := cX4_init) (maxL := 2) (ret := none) (own := RX4) (by decide) rfl rfl (Nat.le_of_ble_eq_true rfl) ?_
  intro p e s m args below meth c ls A Q hA hQ hC hr hk hnm hW hl
  have hx := hC.1
  have hb := hC.2.1
  have hown := hC.2.2.2.1
  have hts := hC.2.2.2.2
  have hnm : meth.name = "<init>" := hnm
  have hl : lv_has ls 2 [(0, .ref h0), (1, .ref h1)] := hl
  have oi := hts _ (wu_in w_3_13)
  have on := hts _ (wu_in w_1_11)
  have oc := hts _ (wu_in w_1_12)
  have i4 := (fun w h => wu_in (inc_4 w h) : ∀ w ∈ u_ws RX4 TX4 16, w ∈ (wu yX4_init cX4_init 2 none))
  have f9 := hts _ (wu_in w_3_14)
  have f15 := hts _ (wu_in w_3_15)
  have f18 := hts _ (wu_in w_3_16)
  have f21 := hts _ (wu_in w_3_17)
  have f24 := hts _ (wu_in w_3_18)
  have aint := hts _ (wu_in w_2_15)
  have f27 := hts _ (wu_in w_3_19)
  have aboolean := hts _ (wu_in w_3_20)
  have f31 := hts _ (wu_in w_3_21)
  have f35 := hts _ (wu_in w_3_22)
  have f38 := hts _ (wu_in w_3_23)
  have f41 := hts _ (wu_in w_4_0)
  have f44 := hts _ (wu_in w_4_1)
  have f47 := hts _ (wu_in w_4_2)
  have f50 := hts _ (wu_in w_4_3)
  have f53 := hts _ (wu_in w_4_4)
  have f56 := hts _ (wu_in w_4_5)
  have f59 := hts _ (wu_in w_4_6)
  have hW : Wd D cy A s (((h0, .inr (4, [.null, .int 0, .int 0, .int 0, .int 0, .int 0, .null, .null, .null, .null, .null, .null, .null, .null, .int 0, .int 0])) :: []) ++ X) s.heap [] := hW
  refine lv_aload_n hx hb dX4_init_0 rfl (lv_at hl 0 rfl) ?_
  refine W.objInit hx hb hown oi on oc rfl (hl.1.trans hC.2.2.1.symm) rfl dX4_init_1 (Nat.le_of_ble_eq_true rfl) (Nat.le_of_ble_eq_true rfl) ?_
  refine W.eq (g2 := F0 m 4 ls []) rfl ?_
  refine lv_aload_n hx hb dX4_init_4 rfl (lv_at hl 0 rfl) ?_
  refine lv_iconst (v := 0) hx hb dX4_init_5 (by decide +kernel) ?_
  refine wa_puth hC i4 tyX4_ok nmX4 hW rfl 1 (Nat.le_of_ble_eq_true rfl) f9 rfl rfl rfl rfl (Nat.le_of_ble_eq_true rfl) (fs' := [.null, .int 0, .int 0, .int 0, .int 0, .int 0, .null, .null, .null, .null, .null, .null, .null, .null, .int 0, .int 0]) rfl dX4_init_6 (fun H locs hW => ?_)
  refine lv_aload_n hx hb dX4_init_9 rfl (lv_at hl 0 rfl) ?_
  refine lv_iconst (v := 0) hx hb dX4_init_10 (by decide +kernel) ?_
  refine wa_puth hC i4 tyX4_ok nmX4 hW rfl 2 (Nat.le_of_ble_eq_true rfl) f15 rfl rfl rfl rfl (Nat.le_of_ble_eq_true rfl) (fs' := [.null, .int 0, .int 0, .int 0, .int 0, .int 0, .null, .null, .null, .null, .null, .null, .null, .null, .int 0, .int 0]) rfl dX4_init_11 (fun H locs hW => ?_)
  refine lv_aload_n hx hb dX4_init_14 rfl (lv_at hl 0 rfl) ?_
  refine lv_iconst (v := 0) hx hb dX4_init_15 (by decide +kernel) ?_
  refine wa_puth hC i4 tyX4_ok nmX4 hW rfl 3 (Nat.le_of_ble_eq_true rfl) f18 rfl rfl rfl rfl (Nat.le_of_ble_eq_true rfl) (fs' := [.null, .int 0, .int 0, .int 0, .int 0, .int 0, .null, .null, .null, .null, .null, .null, .null, .null, .int 0, .int 0]) rfl dX4_init_16 (fun H locs hW => ?_)
  refine lv_aload_n hx hb dX4_init_19 rfl (lv_at hl 0 rfl) ?_
  refine lv_iconst (v := 0) hx hb dX4_init_20 (by decide +kernel) ?_
  refine wa_puth hC i4 tyX4_ok nmX4 hW rfl 4 (Nat.le_of_ble_eq_true rfl) f21 rfl rfl rfl rfl (Nat.le_of_ble_eq_true rfl) (fs' := [.null, .int 0, .int 0, .int 0, .int 0, .int 0, .null, .null, .null, .null, .null, .null, .null, .null, .int 0, .int 0]) rfl dX4_init_21 (fun H locs hW => ?_)
  refine lv_aload_n hx hb dX4_init_24 rfl (lv_at hl 0 rfl) ?_
  refine lv_iconst (v := 0) hx hb dX4_init_25 (by decide +kernel) ?_
  refine wa_puth hC i4 tyX4_ok nmX4 hW rfl 5 (Nat.le_of_ble_eq_true rfl) f24 rfl rfl rfl rfl (Nat.le_of_ble_eq_true rfl) (fs' := [.null, .int 0, .int 0, .int 0, .int 0, .int 0, .null, .null, .null, .null, .null, .null, .null, .null, .int 0, .int 0]) rfl dX4_init_26 (fun H locs hW => ?_)
  refine lv_aload_n hx hb dX4_init_29 rfl (lv_at hl 0 rfl) ?_
  refine lv_bipush (v := 6) hx hb dX4_init_30 (by decide +kernel) ?_
  refine wa_newah (atype := .int) hC aint rfl 0 rfl (fun C h => by cases h) hW 6 (6, .inl (fun _ => 0)) (ha_int 6) (by decide +kernel) (by decide +kernel) (by decide +kernel) (by decide +kernel) (by decide +kernel) dX4_init_32 (fun q1 H hW => ?_)
  have hW : Wd D cy A s ((_ :: [(q1, .inl (cy 0, 6, .inl (fun _ => 0)))]) ++ X) H _ := hW
  refine wa_putFh hC i4 tyX4_ok nmX4 hW rfl 6 (Nat.le_of_ble_eq_true rfl) f27 rfl rfl hnm rfl rfl (Nat.le_of_ble_eq_true rfl) (fs' := [.null, .int 0, .int 0, .int 0, .int 0, .int 0, .ref q1, .null, .null, .null, .null, .null, .null, .null, .int 0, .int 0]) rfl dX4_init_34 (fun H locs hW => ?_)
  refine lv_aload_n hx hb dX4_init_37 rfl (lv_at hl 0 rfl) ?_
  refine lv_bipush (v := 6) hx hb dX4_init_38 (by decide +kernel) ?_
  refine wa_newah (atype := .boolean) hC aboolean rfl 3 rfl (fun C h => by cases h) hW 6 (6, .inl (fun _ => 0)) (ha_boolean 6) (by decide +kernel) (by decide +kernel) (by decide +kernel) (by decide +kernel) (by decide +kernel) dX4_init_40 (fun q2 H hW => ?_)
  have hW : Wd D cy A s ((_ :: [(q1, .inl (cy 0, 6, .inl (fun _ => 0))), (q2, .inl (cy 3, 6, .inl (fun _ => 0)))]) ++ X) H _ := hW
  refine wa_putFh hC i4 tyX4_ok nmX4 hW rfl 7 (Nat.le_of_ble_eq_true rfl) f31 rfl rfl hnm rfl rfl (Nat.le_of_ble_eq_true rfl) (fs' := [.null, .int 0, .int 0, .int 0, .int 0, .int 0, .ref q1, .ref q2, .null, .null, .null, .null, .null, .null, .int 0, .int 0]) rfl dX4_init_42 (fun H locs hW => ?_)
  refine lv_aload_n hx hb dX4_init_45 rfl (lv_at hl 0 rfl) ?_
  refine lv_bipush (v := 6) hx hb dX4_init_46 (by decide +kernel) ?_
  refine wa_newah (atype := .int) hC aint rfl 0 rfl (fun C h => by cases h) hW 6 (6, .inl (fun _ => 0)) (ha_int 6) (by decide +kernel) (by decide +kernel) (by decide +kernel) (by decide +kernel) (by decide +kernel) dX4_init_48 (fun q3 H hW => ?_)
  have hW : Wd D cy A s ((_ :: [(q1, .inl (cy 0, 6, .inl (fun _ => 0))), (q2, .inl (cy 3, 6, .inl (fun _ => 0))), (q3, .inl (cy 0, 6, .inl (fun _ => 0)))]) ++ X) H _ := hW
  refine wa_putFh hC i4 tyX4_ok nmX4 hW rfl 8 (Nat.le_of_ble_eq_true rfl) f35 rfl rfl hnm rfl rfl (Nat.le_of_ble_eq_true rfl) (fs' := [.null, .int 0, .int 0, .int 0, .int 0, .int 0, .ref q1, .ref q2, .ref q3, .null, .null, .null, .null, .null, .int 0, .int 0]) rfl dX4_init_50 (fun H locs hW => ?_)
  refine lv_aload_n hx hb dX4_init_53 rfl (lv_at hl 0 rfl) ?_
  refine lv_bipush (v := 6) hx hb dX4_init_54 (by decide +kernel) ?_
  refine wa_newah (atype := .boolean) hC aboolean rfl 3 rfl (fun C h => by cases h) hW 6 (6, .inl (fun _ => 0)) (ha_boolean 6) (by decide +kernel) (by decide +kernel) (by decide +kernel) (by decide +kernel) (by decide +kernel) dX4_init_56 (fun q4 H hW => ?_)
  have hW : Wd D cy A s ((_ :: [(q1, .inl (cy 0, 6, .inl (fun _ => 0))), (q2, .inl (cy 3, 6, .inl (fun _ => 0))), (q3, .inl (cy 0, 6, .inl (fun _ => 0))), (q4, .inl (cy 3, 6, .inl (fun _ => 0)))]) ++ X) H _ := hW
  refine wa_putFh hC i4 tyX4_ok nmX4 hW rfl 9 (Nat.le_of_ble_eq_true rfl) f38 rfl rfl hnm rfl rfl (Nat.le_of_ble_eq_true rfl) (fs' := [.null, .int 0, .int 0, .int 0, .int 0, .int 0, .ref q1, .ref q2, .ref q3, .ref q4, .null, .null, .null, .null, .int 0, .int 0]) rfl dX4_init_58 (fun H locs hW => ?_)
  refine lv_aload_n hx hb dX4_init_61 rfl (lv_at hl 0 rfl) ?_
  refine lv_bipush (v := 18) hx hb dX4_init_62 (by decide +kernel) ?_
  refine wa_newah (atype := .int) hC aint rfl 0 rfl (fun C h => by cases h) hW 18 (18, .inl (fun _ => 0)) (ha_int 18) (by decide +kernel) (by decide +kernel) (by decide +kernel) (by decide +kernel) (by decide +kernel) dX4_init_64 (fun q5 H hW => ?_)
  have hW : Wd D cy A s ((_ :: [(q1, .inl (cy 0, 6, .inl (fun _ => 0))), (q2, .inl (cy 3, 6, .inl (fun _ => 0))), (q3, .inl (cy 0, 6, .inl (fun _ => 0))), (q4, .inl (cy 3, 6, .inl (fun _ => 0))), (q5, .inl (cy 0, 18, .inl (fun _ => 0)))]) ++ X) H _ := hW
  refine wa_putFh hC i4 tyX4_ok nmX4 hW rfl 10 (Nat.le_of_ble_eq_true rfl) f41 rfl rfl hnm rfl rfl (Nat.le_of_ble_eq_true rfl) (fs' := [.null, .int 0, .int 0, .int 0, .int 0, .int 0, .ref q1, .ref q2, .ref q3, .ref q4, .ref q5, .null, .null, .null, .int 0, .int 0]) rfl dX4_init_66 (fun H locs hW => ?_)
  refine lv_aload_n hx hb dX4_init_69 rfl (lv_at hl 0 rfl) ?_
  refine lv_bipush (v := 6) hx hb dX4_init_70 (by decide +kernel) ?_
  refine wa_newah (atype := .int) hC aint rfl 0 rfl (fun C h => by cases h) hW 6 (6, .inl (fun _ => 0)) (ha_int 6) (by decide +kernel) (by decide +kernel) (by decide +kernel) (by decide +kernel) (by decide +kernel) dX4_init_72 (fun q6 H hW => ?_)
  have hW : Wd D cy A s ((_ :: [(q1, .inl (cy 0, 6, .inl (fun _ => 0))), (q2, .inl (cy 3, 6, .inl (fun _ => 0))), (q3, .inl (cy 0, 6, .inl (fun _ => 0))), (q4, .inl (cy 3, 6, .inl (fun _ => 0))), (q5, .inl (cy 0, 18, .inl (fun _ => 0))), (q6, .inl (cy 0, 6, .inl (fun _ => 0)))]) ++ X) H _ := hW
  refine wa_putFh hC i4 tyX4_ok nmX4 hW rfl 11 (Nat.le_of_ble_eq_true rfl) f44 rfl rfl hnm rfl rfl (Nat.le_of_ble_eq_true rfl) (fs' := [.null, .int 0, .int 0, .int 0, .int 0, .int 0, .ref q1, .ref q2, .ref q3, .ref q4, .ref q5, .ref q6, .null, .null, .int 0, .int 0]) rfl dX4_init_74 (fun H locs hW => ?_)
  refine lv_aload_n hx hb dX4_init_77 rfl (lv_at hl 0 rfl) ?_
  refine lv_bipush (v := 6) hx hb dX4_init_78 (by decide +kernel) ?_
  refine wa_newah (atype := .int) hC aint rfl 0 rfl (fun C h => by cases h) hW 6 (6, .inl (fun _ => 0)) (ha_int 6) (by decide +kernel) (by decide +kernel) (by decide +kernel) (by decide +kernel) (by decide +kernel) dX4_init_80 (fun q7 H hW => ?_)
  have hW : Wd D cy A s ((_ :: [(q1, .inl (cy 0, 6, .inl (fun _ => 0))), (q2, .inl (cy 3, 6, .inl (fun _ => 0))), (q3, .inl (cy 0, 6, .inl (fun _ => 0))), (q4, .inl (cy 3, 6, .inl (fun _ => 0))), (q5, .inl (cy 0, 18, .inl (fun _ => 0))), (q6, .inl (cy 0, 6, .inl (fun _ => 0))), (q7, .inl (cy 0, 6, .inl (fun _ => 0)))]) ++ X) H _ := hW
  refine wa_putFh hC i4 tyX4_ok nmX4 hW rfl 12 (Nat.le_of_ble_eq_true rfl) f47 rfl rfl hnm rfl rfl (Nat.le_of_ble_eq_true rfl) (fs' := [.null, .int 0, .int 0, .int 0, .int 0, .int 0, .ref q1, .ref q2, .ref q3, .ref q4, .ref q5, .ref q6, .ref q7, .null, .int 0, .int 0]) rfl dX4_init_82 (fun H locs hW => ?_)
  refine lv_aload_n hx hb dX4_init_85 rfl (lv_at hl 0 rfl) ?_
  refine lv_sipush (v := 216) hx hb dX4_init_86 (by decide +kernel) ?_
  refine wa_newah (atype := .int) hC aint rfl 0 rfl (fun C h => by cases h) hW 216 (216, .inl (fun _ => 0)) (ha_int 216) (by decide +kernel) (by decide +kernel) (by decide +kernel) (by decide +kernel) (by decide +kernel) dX4_init_89 (fun q8 H hW => ?_)
  have hW : Wd D cy A s ((_ :: [(q1, .inl (cy 0, 6, .inl (fun _ => 0))), (q2, .inl (cy 3, 6, .inl (fun _ => 0))), (q3, .inl (cy 0, 6, .inl (fun _ => 0))), (q4, .inl (cy 3, 6, .inl (fun _ => 0))), (q5, .inl (cy 0, 18, .inl (fun _ => 0))), (q6, .inl (cy 0, 6, .inl (fun _ => 0))), (q7, .inl (cy 0, 6, .inl (fun _ => 0))), (q8, .inl (cy 0, 216, .inl (fun _ => 0)))]) ++ X) H _ := hW
  refine wa_putFh hC i4 tyX4_ok nmX4 hW rfl 13 (Nat.le_of_ble_eq_true rfl) f50 rfl rfl hnm rfl rfl (Nat.le_of_ble_eq_true rfl) (fs' := [.null, .int 0, .int 0, .int 0, .int 0, .int 0, .ref q1, .ref q2, .ref q3, .ref q4, .ref q5, .ref q6, .ref q7, .ref q8, .int 0, .int 0]) rfl dX4_init_91 (fun H locs hW => ?_)
  refine lv_aload_n hx hb dX4_init_94 rfl (lv_at hl 0 rfl) ?_
  refine lv_iconst (v := 0) hx hb dX4_init_95 (by decide +kernel) ?_
  refine wa_puth hC i4 tyX4_ok nmX4 hW rfl 14 (Nat.le_of_ble_eq_true rfl) f53 rfl rfl rfl rfl (Nat.le_of_ble_eq_true rfl) (fs' := [.null, .int 0, .int 0, .int 0, .int 0, .int 0, .ref q1, .ref q2, .ref q3, .ref q4, .ref q5, .ref q6, .ref q7, .ref q8, .int 0, .int 0]) rfl dX4_init_96 (fun H locs hW => ?_)
  refine lv_aload_n hx hb dX4_init_99 rfl (lv_at hl 0 rfl) ?_
  refine lv_iconst (v := 0) hx hb dX4_init_100 (by decide +kernel) ?_
  refine wa_puth hC i4 tyX4_ok nmX4 hW rfl 15 (Nat.le_of_ble_eq_true rfl) f56 rfl rfl rfl rfl (Nat.le_of_ble_eq_true rfl) (fs' := [.null, .int 0, .int 0, .int 0, .int 0, .int 0, .ref q1, .ref q2, .ref q3, .ref q4, .ref q5, .ref q6, .ref q7, .ref q8, .int 0, .int 0]) rfl dX4_init_101 (fun H locs hW => ?_)
  refine lv_aload_n hx hb dX4_init_104 rfl (lv_at hl 0 rfl) ?_
  refine lv_aload_n hx hb dX4_init_105 rfl (lv_at hl 1 rfl) ?_
  refine wa_putFh hC i4 tyX4_ok nmX4 hW rfl 0 (Nat.le_of_ble_eq_true rfl) f59 rfl rfl hnm rfl rfl (Nat.le_of_ble_eq_true rfl) (fs' := [.ref h1, .int 0, .int 0, .int 0, .int 0, .int 0, .ref q1, .ref q2, .ref q3, .ref q4, .ref q5, .ref q6, .ref q7, .ref q8, .int 0, .int 0]) rfl dX4_init_106 (fun H locs hW => ?_)
  exact wa_vret hA hQ hC hr hk hW ⟨rfl, q1, q2, q3, q4, q5, q6, q7, q8, rfl⟩ (by decide +kernel) (by decide +kernel) dX4_init_109
set_option maxHeartbeats 4000000 in
set_option maxRecDepth 100000 in
theorem c_X5_init (l : Launch) (D : va_G) (cy : Nat → ClassId) (X : va_W) (h0 : Nat) : CTa l yX5_init (wu yX5_init cX5_init 1 none) 1 0 0 D cy [.ref h0] ([(h0, .inr (5, [.int 0, .int 0, .int 0, .int 0, .int 0, .int 0, .int 0, .int 0]))] ++ X) (fun r w' => r = none ∧ w' = [(h0, .inr (5, [.int 0, .int 0, .int 0, .int 0, .int 0, .int 0, .int 0, .int 0]))] ++ X) := by
  refine CTa.mk (cc := cX5_init) (maxL := 1) (ret := none) (own := RX5) (by decide) rfl rfl (Nat.le_of_ble_eq_true rfl) ?_
  intro p e s m args below meth c ls A Q hA hQ hC hr hk hnm hW hl
  have hx := hC.1
  have hb := hC.2.1
  have hown := hC.2.2.2.1
  have hts := hC.2.2.2.2
  have hnm : meth.name = "<init>" := hnm
  have hl : lv_has ls 1 [(0, .ref h0)] := hl
  have oi := hts _ (wu_in w_4_9)
  have on := hts _ (wu_in w_1_11)
  have oc := hts _ (wu_in w_1_12)
  have hW : Wd D cy A s (((h0, .inr (5, [.int 0, .int 0, .int 0, .int 0, .int 0, .int 0, .int 0, .int 0])) :: []) ++ X) s.heap [] := hW
  refine lv_aload_n hx hb dX5_init_0 rfl (lv_at hl 0 rfl) ?_
  refine W.objInit hx hb hown oi on oc rfl (hl.1.trans hC.2.2.1.symm) rfl dX5_init_1 (Nat.le_of_ble_eq_true rfl) (Nat.le_of_ble_eq_true rfl) ?_
  refine W.eq (g2 := F0 m 4 ls []) rfl ?_
  exact wa_vret hA hQ hC hr hk hW ⟨rfl, rfl⟩ (by decide +kernel) (by decide +kernel) dX5_init_4
set_option maxHeartbeats 4000000 in
set_option maxRecDepth 100000 in
theorem c_X6_init (l : Launch) (D : va_G) (cy : Nat → ClassId) (X : va_W) (h0 : Nat) : CTa l yX6_init (wu yX6_init cX6_init 1 none) 1 4 729 D cy [.ref h0] ([(h0, .inr (6, [.null, .int 0, .null, .null]))] ++ X) (fun r w' => r = none ∧ ∃ (q1 : Nat) (r1 : Nat → Nat), w' = [(h0, .inr (6, [.null, .int 0, .null, .ref q1])), (q1, .inl (cy 5, 3, .inr (.inr (.inr (.inr (fun i => some (r1 i))))))), (r1 0, .inl (cy 0, 242, .inl (fun _ => 0))), (r1 1, .inl (cy 0, 242, .inl (fun _ => 0))), (r1 2, .inl (cy 0, 242, .inl (fun _ => 0)))] ++ X) := by
  refine CTa.mk (cc := cX6_init) (maxL := 1) (ret := none) (own := RX6) (by decide) rfl rfl (Nat.le_of_ble_eq_true rfl) ?_
  intro p e s m args below meth c ls A Q hA hQ hC hr hk hnm hW hl
  have hx := hC.1
  have hb := hC.2.1
  have hown := hC.2.2.2.1
  have hts := hC.2.2.2.2
  have hnm : meth.name = "<init>" := hnm
  have hl : lv_has ls 1 [(0, .ref h0)] := hl
  have oi := hts _ (wu_in w_4_17)
  have on := hts _ (wu_in w_1_11)
  have oc := hts _ (wu_in w_1_12)
  have i6 := (fun w h => wu_in (inc_6 w h) : ∀ w ∈ u_ws RX6 TX6 4, w ∈ (wu yX6_init cX6_init 1 none))
  have f9 := hts _ (wu_in w_4_18)
  have f15 := hts _ (wu_in w_4_19)
  have f19 := hts _ (wu_in w_4_20)
  have g23 := hts _ (wu_in w_4_21)
  have aint := hts _ (wu_in w_2_15)
  have f25 := hts _ (wu_in w_4_22)
  have hW : Wd D cy A s (((h0, .inr (6, [.null, .int 0, .null, .null])) :: []) ++ X) s.heap [] := hW
  refine lv_aload_n hx hb dX6_init_0 rfl (lv_at hl 0 rfl) ?_
  refine W.objInit hx hb hown oi on oc rfl (hl.1.trans hC.2.2.1.symm) rfl dX6_init_1 (Nat.le_of_ble_eq_true rfl) (Nat.le_of_ble_eq_true rfl) ?_
  refine W.eq (g2 := F0 m 4 ls []) rfl ?_
  refine lv_aload_n hx hb dX6_init_4 rfl (lv_at hl 0 rfl) ?_
  refine lv_null hx hb dX6_init_5 ?_
  refine wa_puth hC i6 tyX6_ok nmX6 hW rfl 0 (Nat.le_of_ble_eq_true rfl) f9 rfl rfl rfl rfl (Nat.le_of_ble_eq_true rfl) (fs' := [.null, .int 0, .null, .null]) rfl dX6_init_6 (fun H locs hW => ?_)
  refine lv_aload_n hx hb dX6_init_9 rfl (lv_at hl 0 rfl) ?_
  refine lv_iconst (v := 0) hx hb dX6_init_10 (by decide +kernel) ?_
  refine wa_puth hC i6 tyX6_ok nmX6 hW rfl 1 (Nat.le_of_ble_eq_true rfl) f15 rfl rfl rfl rfl (Nat.le_of_ble_eq_true rfl) (fs' := [.null, .int 0, .null, .null]) rfl dX6_init_11 (fun H locs hW => ?_)
  refine lv_aload_n hx hb dX6_init_14 rfl (lv_at hl 0 rfl) ?_
  refine lv_null hx hb dX6_init_15 ?_
  refine wa_puth hC i6 tyX6_ok nmX6 hW rfl 2 (Nat.le_of_ble_eq_true rfl) f19 rfl rfl rfl rfl (Nat.le_of_ble_eq_true rfl) (fs' := [.null, .int 0, .null, .null]) rfl dX6_init_16 (fun H locs hW => ?_)
  refine lv_aload_n hx hb dX6_init_19 rfl (lv_at hl 0 rfl) ?_
  refine lv_iconst (v := 3) hx hb dX6_init_20 (by decide +kernel) ?_
  refine lv_sipush (v := 242) hx hb dX6_init_21 (by decide +kernel) ?_
  refine wa_mnah hC g23 aint hW 3 242 (by decide +kernel) (by decide +kernel) (by decide +kernel) (by decide +kernel) (by decide +kernel) (by decide +kernel) (by decide +kernel) (by decide +kernel) dX6_init_24 (fun q1 r1 H hW => ?_)
  have hW : Wd D cy A s ((_ :: [(q1, .inl (cy 5, 3, .inr (.inr (.inr (.inr (fun i => some (r1 i))))))), (r1 0, .inl (cy 0, 242, .inl (fun _ => 0))), (r1 1, .inl (cy 0, 242, .inl (fun _ => 0))), (r1 2, .inl (cy 0, 242, .inl (fun _ => 0)))]) ++ X) H _ := hW
  refine wa_putFh hC i6 tyX6_ok nmX6 hW rfl 3 (Nat.le_of_ble_eq_true rfl) f25 rfl rfl hnm rfl rfl (Nat.le_of_ble_eq_true rfl) (fs' := [.null, .int 0, .null, .ref q1]) rfl dX6_init_28 (fun H locs hW => ?_)
  exact wa_vret hA hQ hC hr hk hW ⟨rfl, q1, r1, rfl⟩ (by decide +kernel) (by decide +kernel) dX6_init_31
set_option maxHeartbeats 4000000 in
set_option maxRecDepth 100000 in
theorem c_X7_init (l : Launch) (D : va_G) (cy : Nat → ClassId) (X : va_W) (h0 : Nat) : CTa l yX7_init (wu yX7_init cX7_init 1 none) 1 1 240 D cy [.ref h0] ([(h0, .inr (7, [.null, .int 0, .int 0, .int 0]))] ++ X) (fun r w' => r = none ∧ ∃ (q1 : Nat), w' = [(h0, .inr (7, [.ref q1, .int 0, .int 0, .int (-1)])), (q1, .inl (cy 2, 240, .inl (fun _ => 0)))] ++ X) := by
  refine CTa.mk (cc := cX7_init) (maxL := 1) (ret := none) (own := RX7) (by decide) rfl rfl (Nat.le_of_ble_eq_true rfl) ?_
  intro p e s m args below meth c ls A Q hA hQ hC hr hk hnm hW hl
  have hx := hC.1
  have hb := hC.2.1
  have hown := hC.2.2.2.1
  have hts := hC.2.2.2.2
  have hnm : meth.name = "<init>" := hnm
  have hl : lv_has ls 1 [(0, .ref h0)] := hl
  have oi := hts _ (wu_in w_2_23)
  have on := hts _ (wu_in w_1_11)
  have oc := hts _ (wu_in w_1_12)
  have achar := hts _ (wu_in w_3_0)
  have i7 := (fun w h => wu_in (inc_7 w h) : ∀ w ∈ u_ws RX7 TX7 4, w ∈ (wu yX7_init cX7_init 1 none))
  have f9 := hts _ (wu_in w_3_1)
  have f15 := hts _ (wu_in w_3_2)
  have f19 := hts _ (wu_in w_3_3)
  have f22 := hts _ (wu_in w_3_4)
  have hW : Wd D cy A s (((h0, .inr (7, [.null, .int 0, .int 0, .int 0])) :: []) ++ X) s.heap [] := hW
  refine lv_aload_n hx hb dX7_init_0 rfl (lv_at hl 0 rfl) ?_
  refine W.objInit hx hb hown oi on oc rfl (hl.1.trans hC.2.2.1.symm) rfl dX7_init_1 (Nat.le_of_ble_eq_true rfl) (Nat.le_of_ble_eq_true rfl) ?_
  refine W.eq (g2 := F0 m 4 ls []) rfl ?_
  refine lv_aload_n hx hb dX7_init_4 rfl (lv_at hl 0 rfl) ?_
  refine lv_sipush (v := 240) hx hb dX7_init_5 (by decide +kernel) ?_
  refine wa_newah (atype := .char) hC achar rfl 2 rfl (fun C h => by cases h) hW 240 (240, .inl (fun _ => 0)) (ha_char 240) (by decide +kernel) (by decide +kernel) (by decide +kernel) (by decide +kernel) (by decide +kernel) dX7_init_8 (fun q1 H hW => ?_)
  have hW : Wd D cy A s ((_ :: [(q1, .inl (cy 2, 240, .inl (fun _ => 0)))]) ++ X) H _ := hW
  refine wa_putFh hC i7 tyX7_ok nmX7 hW rfl 0 (Nat.le_of_ble_eq_true rfl) f9 rfl rfl hnm rfl rfl (Nat.le_of_ble_eq_true rfl) (fs' := [.ref q1, .int 0, .int 0, .int 0]) rfl dX7_init_10 (fun H locs hW => ?_)
  refine lv_aload_n hx hb dX7_init_13 rfl (lv_at hl 0 rfl) ?_
  refine lv_iconst (v := 0) hx hb dX7_init_14 (by decide +kernel) ?_
  refine wa_puth hC i7 tyX7_ok nmX7 hW rfl 1 (Nat.le_of_ble_eq_true rfl) f15 rfl rfl rfl rfl (Nat.le_of_ble_eq_true rfl) (fs' := [.ref q1, .int 0, .int 0, .int 0]) rfl dX7_init_15 (fun H locs hW => ?_)
  refine lv_aload_n hx hb dX7_init_18 rfl (lv_at hl 0 rfl) ?_
  refine lv_iconst (v := 0) hx hb dX7_init_19 (by decide +kernel) ?_
  refine wa_puth hC i7 tyX7_ok nmX7 hW rfl 2 (Nat.le_of_ble_eq_true rfl) f19 rfl rfl rfl rfl (Nat.le_of_ble_eq_true rfl) (fs' := [.ref q1, .int 0, .int 0, .int 0]) rfl dX7_init_20 (fun H locs hW => ?_)
  refine lv_aload_n hx hb dX7_init_23 rfl (lv_at hl 0 rfl) ?_
  refine lv_iconst (v := (-1)) hx hb dX7_init_24 (by decide +kernel) ?_
  refine wa_puth hC i7 tyX7_ok nmX7 hW rfl 3 (Nat.le_of_ble_eq_true rfl) f22 rfl rfl rfl rfl (Nat.le_of_ble_eq_true rfl) (fs' := [.ref q1, .int 0, .int 0, .int (-1)]) rfl dX7_init_25 (fun H locs hW => ?_)
  exact wa_vret hA hQ hC hr hk hW ⟨rfl, q1, rfl⟩ (by decide +kernel) (by decide +kernel) dX7_init_28
