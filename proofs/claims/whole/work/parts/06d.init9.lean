set_option maxHeartbeats 4000000 in
set_option maxRecDepth 100000 in
theorem c_X9_init (l : Launch) (D : va_G) (cy : Nat → ClassId) (X : va_W) (h0 : Nat) : CTa l yX9_init (wu yX9_init cX9_init 1 none) 1 22 60349 D cy [.ref h0] ([(h0, .inr (9, [.int 0, .int 0, .null, .int 0, .null, .null, .null, .null, .null, .null, .int 0, .null, .null, .int 0, .int 0, .null, .int 0, .null, .int 0, .int 0, .int 0, .int 0, .int 0, .int 0, .null, .null, .null, .null, .null, .null, .null, .null, .null, .int 0, .int 0, .int 0, .int 0, .null, .null, .int 0]))] ++ X) (fun r w' => r = none ∧ ∃ (q1 : Nat) (q2 : Nat) (q3 : Nat) (q4 : Nat) (q5 : Nat) (q6 : Nat) (q7 : Nat) (q8 : Nat) (q9 : Nat) (q10 : Nat) (q11 : Nat) (q12 : Nat) (q13 : Nat) (q14 : Nat) (q15 : Nat) (q16 : Nat) (q17 : Nat) (q18 : Nat) (q19 : Nat) (q20 : Nat) (q21 : Nat) (q22 : Nat), w' = [(h0, .inr (9, [.int 0, .int 0, .ref q1, .int 0, .ref q2, .ref q3, .ref q4, .ref q5, .ref q6, .ref q7, .int 0, .ref q8, .ref q9, .int 0, .int 0, .ref q10, .int 0, .ref q11, .int 0, .int 0, .int 0, .int 0, .int 0, .int 0, .ref q12, .ref q13, .ref q14, .ref q15, .ref q16, .ref q17, .ref q18, .ref q19, .ref q20, .int 0, .int 0, .int 0, .int 0, .ref q21, .ref q22, .int 0])), (q1, .inl (cy 1, 64, .inr (.inl (fun _ => 0)))), (q2, .inl (cy 0, 6, .inl (fun _ => 0))), (q3, .inl (cy 0, 6, .inl (fun _ => 0))), (q4, .inl (cy 0, 18, .inl (fun _ => 0))), (q5, .inl (cy 0, 108, .inl (fun _ => 0))), (q6, .inl (cy 0, 108, .inl (fun _ => 0))), (q7, .inl (cy 0, 54, .inl (fun _ => 0))), (q8, .inl (cy 0, 63, .inl (fun _ => 0))), (q9, .inl (cy 0, 63, .inl (fun _ => 0))), (q10, .inl (cy 0, 240, .inl (fun _ => 0))), (q11, .inl (cy 0, 240, .inl (fun _ => 0))), (q12, .inl (cy 0, 3, .inl (fun _ => 0))), (q13, .inl (cy 0, 18, .inl (fun _ => 0))), (q14, .inl (cy 0, 18, .inl (fun _ => 0))), (q15, .inl (cy 0, 9, .inl (fun _ => 0))), (q16, .inl (cy 0, 122, .inl (fun _ => 0))), (q17, .inl (cy 0, 122, .inl (fun _ => 0))), (q18, .inl (cy 0, 121, .inl (fun _ => 0))), (q19, .inl (cy 0, 484, .inl (fun _ => 0))), (q20, .inl (cy 0, 28224, .inl (fun _ => 0))), (q21, .inl (cy 0, 15129, .inl (fun _ => 0))), (q22, .inl (cy 0, 15129, .inl (fun _ => 0)))] ++ X) := by
  refine CTa.mk (cc := cX9_init) (maxL := 1) (ret := none) (own := RX9) (by decide) rfl rfl (Nat.le_of_ble_eq_true rfl) ?_
  intro p e s m args below meth c ls A Q hA hQ hC hr hk hnm hW hl
  have hx := hC.1
  have hb := hC.2.1
  have hown := hC.2.2.2.1
  have hts := hC.2.2.2.2
  have hnm : meth.name = "<init>" := hnm
  have hl : lv_has ls 1 [(0, .ref h0)] := hl
  have oi := hts _ (wu_in w_5_2)
  have on := hts _ (wu_in w_1_11)
  have oc := hts _ (wu_in w_1_12)
  have along := hts _ (wu_in w_1_6)
  have i9 := (fun w h => wu_in (inc_9 w h) : ∀ w ∈ u_ws RX9 TX9 40, w ∈ (wu yX9_init cX9_init 1 none))
  have f7 := hts _ (wu_in w_5_3)
  have aint := hts _ (wu_in w_2_15)
  have f13 := hts _ (wu_in w_5_4)
  have f17 := hts _ (wu_in w_5_5)
  have f20 := hts _ (wu_in w_5_6)
  have f23 := hts _ (wu_in w_5_7)
  have f26 := hts _ (wu_in w_5_8)
  have f29 := hts _ (wu_in w_5_9)
  have f32 := hts _ (wu_in w_5_10)
  have f35 := hts _ (wu_in w_5_11)
  have f38 := hts _ (wu_in w_5_12)
  have f41 := hts _ (wu_in w_5_13)
  have f44 := hts _ (wu_in w_5_14)
  have f47 := hts _ (wu_in w_5_15)
  have f50 := hts _ (wu_in w_5_16)
  have f53 := hts _ (wu_in w_5_17)
  have f56 := hts _ (wu_in w_5_18)
  have f59 := hts _ (wu_in w_5_19)
  have f62 := hts _ (wu_in w_5_20)
  have f65 := hts _ (wu_in w_5_21)
  have f68 := hts _ (wu_in w_5_22)
  have f71 := hts _ (wu_in w_5_23)
  have f74 := hts _ (wu_in w_6_0)
  have hW : Wd D cy A s (((h0, .inr (9, [.int 0, .int 0, .null, .int 0, .null, .null, .null, .null, .null, .null, .int 0, .null, .null, .int 0, .int 0, .null, .int 0, .null, .int 0, .int 0, .int 0, .int 0, .int 0, .int 0, .null, .null, .null, .null, .null, .null, .null, .null, .null, .int 0, .int 0, .int 0, .int 0, .null, .null, .int 0])) :: []) ++ X) s.heap [] := hW
  refine lv_aload_n hx hb dX9_init_0 rfl (lv_at hl 0 rfl) ?_
  refine W.objInit hx hb hown oi on oc rfl (hl.1.trans hC.2.2.1.symm) rfl dX9_init_1 (Nat.le_of_ble_eq_true rfl) (Nat.le_of_ble_eq_true rfl) ?_
  refine W.eq (g2 := F0 m 4 ls []) rfl ?_
  refine lv_aload_n hx hb dX9_init_4 rfl (lv_at hl 0 rfl) ?_
  refine lv_bipush (v := 64) hx hb dX9_init_5 (by decide +kernel) ?_
  refine wa_newah (atype := .long) hC along rfl 1 rfl (fun C h => by cases h) hW 64 (64, .inr (.inl (fun _ => 0))) (ha_long 64) (by decide +kernel) (by decide +kernel) (Nat.le_of_ble_eq_true rfl) (Nat.le_of_ble_eq_true rfl) (Nat.le_of_ble_eq_true rfl) dX9_init_7 (fun q1 H hW => ?_)
  refine wa_putFh hC i9 tyX9_ok nmX9 hW rfl 2 (Nat.le_of_ble_eq_true rfl) f7 rfl rfl hnm rfl rfl (Nat.le_of_ble_eq_true rfl) (fs' := [.int 0, .int 0, .ref q1, .int 0, .null, .null, .null, .null, .null, .null, .int 0, .null, .null, .int 0, .int 0, .null, .int 0, .null, .int 0, .int 0, .int 0, .int 0, .int 0, .int 0, .null, .null, .null, .null, .null, .null, .null, .null, .null, .int 0, .int 0, .int 0, .int 0, .null, .null, .int 0]) rfl dX9_init_9 (fun H locs hW => ?_)
  refine lv_aload_n hx hb dX9_init_12 rfl (lv_at hl 0 rfl) ?_
  refine lv_bipush (v := 6) hx hb dX9_init_13 (by decide +kernel) ?_
  refine wa_newah (atype := .int) hC aint rfl 0 rfl (fun C h => by cases h) hW 6 (6, .inl (fun _ => 0)) (ha_int 6) (by decide +kernel) (by decide +kernel) (Nat.le_of_ble_eq_true rfl) (Nat.le_of_ble_eq_true rfl) (Nat.le_of_ble_eq_true rfl) dX9_init_15 (fun q2 H hW => ?_)
  refine wa_putFh hC i9 tyX9_ok nmX9 hW rfl 4 (Nat.le_of_ble_eq_true rfl) f13 rfl rfl hnm rfl rfl (Nat.le_of_ble_eq_true rfl) (fs' := [.int 0, .int 0, .ref q1, .int 0, .ref q2, .null, .null, .null, .null, .null, .int 0, .null, .null, .int 0, .int 0, .null, .int 0, .null, .int 0, .int 0, .int 0, .int 0, .int 0, .int 0, .null, .null, .null, .null, .null, .null, .null, .null, .null, .int 0, .int 0, .int 0, .int 0, .null, .null, .int 0]) rfl dX9_init_17 (fun H locs hW => ?_)
  refine lv_aload_n hx hb dX9_init_20 rfl (lv_at hl 0 rfl) ?_
  refine lv_bipush (v := 6) hx hb dX9_init_21 (by decide +kernel) ?_
  refine wa_newah (atype := .int) hC aint rfl 0 rfl (fun C h => by cases h) hW 6 (6, .inl (fun _ => 0)) (ha_int 6) (by decide +kernel) (by decide +kernel) (Nat.le_of_ble_eq_true rfl) (Nat.le_of_ble_eq_true rfl) (Nat.le_of_ble_eq_true rfl) dX9_init_23 (fun q3 H hW => ?_)
  refine wa_putFh hC i9 tyX9_ok nmX9 hW rfl 5 (Nat.le_of_ble_eq_true rfl) f17 rfl rfl hnm rfl rfl (Nat.le_of_ble_eq_true rfl) (fs' := [.int 0, .int 0, .ref q1, .int 0, .ref q2, .ref q3, .null, .null, .null, .null, .int 0, .null, .null, .int 0, .int 0, .null, .int 0, .null, .int 0, .int 0, .int 0, .int 0, .int 0, .int 0, .null, .null, .null, .null, .null, .null, .null, .null, .null, .int 0, .int 0, .int 0, .int 0, .null, .null, .int 0]) rfl dX9_init_25 (fun H locs hW => ?_)
  refine lv_aload_n hx hb dX9_init_28 rfl (lv_at hl 0 rfl) ?_
  refine lv_bipush (v := 18) hx hb dX9_init_29 (by decide +kernel) ?_
  refine wa_newah (atype := .int) hC aint rfl 0 rfl (fun C h => by cases h) hW 18 (18, .inl (fun _ => 0)) (ha_int 18) (by decide +kernel) (by decide +kernel) (Nat.le_of_ble_eq_true rfl) (Nat.le_of_ble_eq_true rfl) (Nat.le_of_ble_eq_true rfl) dX9_init_31 (fun q4 H hW => ?_)
  refine wa_putFh hC i9 tyX9_ok nmX9 hW rfl 6 (Nat.le_of_ble_eq_true rfl) f20 rfl rfl hnm rfl rfl (Nat.le_of_ble_eq_true rfl) (fs' := [.int 0, .int 0, .ref q1, .int 0, .ref q2, .ref q3, .ref q4, .null, .null, .null, .int 0, .null, .null, .int 0, .int 0, .null, .int 0, .null, .int 0, .int 0, .int 0, .int 0, .int 0, .int 0, .null, .null, .null, .null, .null, .null, .null, .null, .null, .int 0, .int 0, .int 0, .int 0, .null, .null, .int 0]) rfl dX9_init_33 (fun H locs hW => ?_)
  refine lv_aload_n hx hb dX9_init_36 rfl (lv_at hl 0 rfl) ?_
  refine lv_bipush (v := 108) hx hb dX9_init_37 (by decide +kernel) ?_
  refine wa_newah (atype := .int) hC aint rfl 0 rfl (fun C h => by cases h) hW 108 (108, .inl (fun _ => 0)) (ha_int 108) (by decide +kernel) (by decide +kernel) (Nat.le_of_ble_eq_true rfl) (Nat.le_of_ble_eq_true rfl) (Nat.le_of_ble_eq_true rfl) dX9_init_39 (fun q5 H hW => ?_)
  refine wa_putFh hC i9 tyX9_ok nmX9 hW rfl 7 (Nat.le_of_ble_eq_true rfl) f23 rfl rfl hnm rfl rfl (Nat.le_of_ble_eq_true rfl) (fs' := [.int 0, .int 0, .ref q1, .int 0, .ref q2, .ref q3, .ref q4, .ref q5, .null, .null, .int 0, .null, .null, .int 0, .int 0, .null, .int 0, .null, .int 0, .int 0, .int 0, .int 0, .int 0, .int 0, .null, .null, .null, .null, .null, .null, .null, .null, .null, .int 0, .int 0, .int 0, .int 0, .null, .null, .int 0]) rfl dX9_init_41 (fun H locs hW => ?_)
  refine lv_aload_n hx hb dX9_init_44 rfl (lv_at hl 0 rfl) ?_
  refine lv_bipush (v := 108) hx hb dX9_init_45 (by decide +kernel) ?_
  refine wa_newah (atype := .int) hC aint rfl 0 rfl (fun C h => by cases h) hW 108 (108, .inl (fun _ => 0)) (ha_int 108) (by decide +kernel) (by decide +kernel) (Nat.le_of_ble_eq_true rfl) (Nat.le_of_ble_eq_true rfl) (Nat.le_of_ble_eq_true rfl) dX9_init_47 (fun q6 H hW => ?_)
  refine wa_putFh hC i9 tyX9_ok nmX9 hW rfl 8 (Nat.le_of_ble_eq_true rfl) f26 rfl rfl hnm rfl rfl (Nat.le_of_ble_eq_true rfl) (fs' := [.int 0, .int 0, .ref q1, .int 0, .ref q2, .ref q3, .ref q4, .ref q5, .ref q6, .null, .int 0, .null, .null, .int 0, .int 0, .null, .int 0, .null, .int 0, .int 0, .int 0, .int 0, .int 0, .int 0, .null, .null, .null, .null, .null, .null, .null, .null, .null, .int 0, .int 0, .int 0, .int 0, .null, .null, .int 0]) rfl dX9_init_49 (fun H locs hW => ?_)
  refine lv_aload_n hx hb dX9_init_52 rfl (lv_at hl 0 rfl) ?_
  refine lv_bipush (v := 54) hx hb dX9_init_53 (by decide +kernel) ?_
  refine wa_newah (atype := .int) hC aint rfl 0 rfl (fun C h => by cases h) hW 54 (54, .inl (fun _ => 0)) (ha_int 54) (by decide +kernel) (by decide +kernel) (Nat.le_of_ble_eq_true rfl) (Nat.le_of_ble_eq_true rfl) (Nat.le_of_ble_eq_true rfl) dX9_init_55 (fun q7 H hW => ?_)
  refine wa_putFh hC i9 tyX9_ok nmX9 hW rfl 9 (Nat.le_of_ble_eq_true rfl) f29 rfl rfl hnm rfl rfl (Nat.le_of_ble_eq_true rfl) (fs' := [.int 0, .int 0, .ref q1, .int 0, .ref q2, .ref q3, .ref q4, .ref q5, .ref q6, .ref q7, .int 0, .null, .null, .int 0, .int 0, .null, .int 0, .null, .int 0, .int 0, .int 0, .int 0, .int 0, .int 0, .null, .null, .null, .null, .null, .null, .null, .null, .null, .int 0, .int 0, .int 0, .int 0, .null, .null, .int 0]) rfl dX9_init_57 (fun H locs hW => ?_)
  refine lv_aload_n hx hb dX9_init_60 rfl (lv_at hl 0 rfl) ?_
  refine lv_bipush (v := 63) hx hb dX9_init_61 (by decide +kernel) ?_
  refine wa_newah (atype := .int) hC aint rfl 0 rfl (fun C h => by cases h) hW 63 (63, .inl (fun _ => 0)) (ha_int 63) (by decide +kernel) (by decide +kernel) (Nat.le_of_ble_eq_true rfl) (Nat.le_of_ble_eq_true rfl) (Nat.le_of_ble_eq_true rfl) dX9_init_63 (fun q8 H hW => ?_)
  refine wa_putFh hC i9 tyX9_ok nmX9 hW rfl 11 (Nat.le_of_ble_eq_true rfl) f32 rfl rfl hnm rfl rfl (Nat.le_of_ble_eq_true rfl) (fs' := [.int 0, .int 0, .ref q1, .int 0, .ref q2, .ref q3, .ref q4, .ref q5, .ref q6, .ref q7, .int 0, .ref q8, .null, .int 0, .int 0, .null, .int 0, .null, .int 0, .int 0, .int 0, .int 0, .int 0, .int 0, .null, .null, .null, .null, .null, .null, .null, .null, .null, .int 0, .int 0, .int 0, .int 0, .null, .null, .int 0]) rfl dX9_init_65 (fun H locs hW => ?_)
  refine lv_aload_n hx hb dX9_init_68 rfl (lv_at hl 0 rfl) ?_
  refine lv_bipush (v := 63) hx hb dX9_init_69 (by decide +kernel) ?_
  refine wa_newah (atype := .int) hC aint rfl 0 rfl (fun C h => by cases h) hW 63 (63, .inl (fun _ => 0)) (ha_int 63) (by decide +kernel) (by decide +kernel) (Nat.le_of_ble_eq_true rfl) (Nat.le_of_ble_eq_true rfl) (Nat.le_of_ble_eq_true rfl) dX9_init_71 (fun q9 H hW => ?_)
  refine wa_putFh hC i9 tyX9_ok nmX9 hW rfl 12 (Nat.le_of_ble_eq_true rfl) f35 rfl rfl hnm rfl rfl (Nat.le_of_ble_eq_true rfl) (fs' := [.int 0, .int 0, .ref q1, .int 0, .ref q2, .ref q3, .ref q4, .ref q5, .ref q6, .ref q7, .int 0, .ref q8, .ref q9, .int 0, .int 0, .null, .int 0, .null, .int 0, .int 0, .int 0, .int 0, .int 0, .int 0, .null, .null, .null, .null, .null, .null, .null, .null, .null, .int 0, .int 0, .int 0, .int 0, .null, .null, .int 0]) rfl dX9_init_73 (fun H locs hW => ?_)
  refine lv_aload_n hx hb dX9_init_76 rfl (lv_at hl 0 rfl) ?_
  refine lv_sipush (v := 240) hx hb dX9_init_77 (by decide +kernel) ?_
  refine wa_newah (atype := .int) hC aint rfl 0 rfl (fun C h => by cases h) hW 240 (240, .inl (fun _ => 0)) (ha_int 240) (by decide +kernel) (by decide +kernel) (Nat.le_of_ble_eq_true rfl) (Nat.le_of_ble_eq_true rfl) (Nat.le_of_ble_eq_true rfl) dX9_init_80 (fun q10 H hW => ?_)
  refine wa_putFh hC i9 tyX9_ok nmX9 hW rfl 15 (Nat.le_of_ble_eq_true rfl) f38 rfl rfl hnm rfl rfl (Nat.le_of_ble_eq_true rfl) (fs' := [.int 0, .int 0, .ref q1, .int 0, .ref q2, .ref q3, .ref q4, .ref q5, .ref q6, .ref q7, .int 0, .ref q8, .ref q9, .int 0, .int 0, .ref q10, .int 0, .null, .int 0, .int 0, .int 0, .int 0, .int 0, .int 0, .null, .null, .null, .null, .null, .null, .null, .null, .null, .int 0, .int 0, .int 0, .int 0, .null, .null, .int 0]) rfl dX9_init_82 (fun H locs hW => ?_)
  refine lv_aload_n hx hb dX9_init_85 rfl (lv_at hl 0 rfl) ?_
  refine lv_sipush (v := 240) hx hb dX9_init_86 (by decide +kernel) ?_
  refine wa_newah (atype := .int) hC aint rfl 0 rfl (fun C h => by cases h) hW 240 (240, .inl (fun _ => 0)) (ha_int 240) (by decide +kernel) (by decide +kernel) (Nat.le_of_ble_eq_true rfl) (Nat.le_of_ble_eq_true rfl) (Nat.le_of_ble_eq_true rfl) dX9_init_89 (fun q11 H hW => ?_)
  refine wa_putFh hC i9 tyX9_ok nmX9 hW rfl 17 (Nat.le_of_ble_eq_true rfl) f41 rfl rfl hnm rfl rfl (Nat.le_of_ble_eq_true rfl) (fs' := [.int 0, .int 0, .ref q1, .int 0, .ref q2, .ref q3, .ref q4, .ref q5, .ref q6, .ref q7, .int 0, .ref q8, .ref q9, .int 0, .int 0, .ref q10, .int 0, .ref q11, .int 0, .int 0, .int 0, .int 0, .int 0, .int 0, .null, .null, .null, .null, .null, .null, .null, .null, .null, .int 0, .int 0, .int 0, .int 0, .null, .null, .int 0]) rfl dX9_init_91 (fun H locs hW => ?_)
  refine lv_aload_n hx hb dX9_init_94 rfl (lv_at hl 0 rfl) ?_
  refine lv_iconst (v := 3) hx hb dX9_init_95 (by decide +kernel) ?_
  refine wa_newah (atype := .int) hC aint rfl 0 rfl (fun C h => by cases h) hW 3 (3, .inl (fun _ => 0)) (ha_int 3) (by decide +kernel) (by decide +kernel) (Nat.le_of_ble_eq_true rfl) (Nat.le_of_ble_eq_true rfl) (Nat.le_of_ble_eq_true rfl) dX9_init_96 (fun q12 H hW => ?_)
  refine wa_putFh hC i9 tyX9_ok nmX9 hW rfl 24 (Nat.le_of_ble_eq_true rfl) f44 rfl rfl hnm rfl rfl (Nat.le_of_ble_eq_true rfl) (fs' := [.int 0, .int 0, .ref q1, .int 0, .ref q2, .ref q3, .ref q4, .ref q5, .ref q6, .ref q7, .int 0, .ref q8, .ref q9, .int 0, .int 0, .ref q10, .int 0, .ref q11, .int 0, .int 0, .int 0, .int 0, .int 0, .int 0, .ref q12, .null, .null, .null, .null, .null, .null, .null, .null, .int 0, .int 0, .int 0, .int 0, .null, .null, .int 0]) rfl dX9_init_98 (fun H locs hW => ?_)
  refine lv_aload_n hx hb dX9_init_101 rfl (lv_at hl 0 rfl) ?_
  refine lv_bipush (v := 18) hx hb dX9_init_102 (by decide +kernel) ?_
  refine wa_newah (atype := .int) hC aint rfl 0 rfl (fun C h => by cases h) hW 18 (18, .inl (fun _ => 0)) (ha_int 18) (by decide +kernel) (by decide +kernel) (Nat.le_of_ble_eq_true rfl) (Nat.le_of_ble_eq_true rfl) (Nat.le_of_ble_eq_true rfl) dX9_init_104 (fun q13 H hW => ?_)
  refine wa_putFh hC i9 tyX9_ok nmX9 hW rfl 25 (Nat.le_of_ble_eq_true rfl) f47 rfl rfl hnm rfl rfl (Nat.le_of_ble_eq_true rfl) (fs' := [.int 0, .int 0, .ref q1, .int 0, .ref q2, .ref q3, .ref q4, .ref q5, .ref q6, .ref q7, .int 0, .ref q8, .ref q9, .int 0, .int 0, .ref q10, .int 0, .ref q11, .int 0, .int 0, .int 0, .int 0, .int 0, .int 0, .ref q12, .ref q13, .null, .null, .null, .null, .null, .null, .null, .int 0, .int 0, .int 0, .int 0, .null, .null, .int 0]) rfl dX9_init_106 (fun H locs hW => ?_)
  refine lv_aload_n hx hb dX9_init_109 rfl (lv_at hl 0 rfl) ?_
  refine lv_bipush (v := 18) hx hb dX9_init_110 (by decide +kernel) ?_
  refine wa_newah (atype := .int) hC aint rfl 0 rfl (fun C h => by cases h) hW 18 (18, .inl (fun _ => 0)) (ha_int 18) (by decide +kernel) (by decide +kernel) (Nat.le_of_ble_eq_true rfl) (Nat.le_of_ble_eq_true rfl) (Nat.le_of_ble_eq_true rfl) dX9_init_112 (fun q14 H hW => ?_)
  refine wa_putFh hC i9 tyX9_ok nmX9 hW rfl 26 (Nat.le_of_ble_eq_true rfl) f50 rfl rfl hnm rfl rfl (Nat.le_of_ble_eq_true rfl) (fs' := [.int 0, .int 0, .ref q1, .int 0, .ref q2, .ref q3, .ref q4, .ref q5, .ref q6, .ref q7, .int 0, .ref q8, .ref q9, .int 0, .int 0, .ref q10, .int 0, .ref q11, .int 0, .int 0, .int 0, .int 0, .int 0, .int 0, .ref q12, .ref q13, .ref q14, .null, .null, .null, .null, .null, .null, .int 0, .int 0, .int 0, .int 0, .null, .null, .int 0]) rfl dX9_init_114 (fun H locs hW => ?_)
  refine lv_aload_n hx hb dX9_init_117 rfl (lv_at hl 0 rfl) ?_
  refine lv_bipush (v := 9) hx hb dX9_init_118 (by decide +kernel) ?_
  refine wa_newah (atype := .int) hC aint rfl 0 rfl (fun C h => by cases h) hW 9 (9, .inl (fun _ => 0)) (ha_int 9) (by decide +kernel) (by decide +kernel) (Nat.le_of_ble_eq_true rfl) (Nat.le_of_ble_eq_true rfl) (Nat.le_of_ble_eq_true rfl) dX9_init_120 (fun q15 H hW => ?_)
  refine wa_putFh hC i9 tyX9_ok nmX9 hW rfl 27 (Nat.le_of_ble_eq_true rfl) f53 rfl rfl hnm rfl rfl (Nat.le_of_ble_eq_true rfl) (fs' := [.int 0, .int 0, .ref q1, .int 0, .ref q2, .ref q3, .ref q4, .ref q5, .ref q6, .ref q7, .int 0, .ref q8, .ref q9, .int 0, .int 0, .ref q10, .int 0, .ref q11, .int 0, .int 0, .int 0, .int 0, .int 0, .int 0, .ref q12, .ref q13, .ref q14, .ref q15, .null, .null, .null, .null, .null, .int 0, .int 0, .int 0, .int 0, .null, .null, .int 0]) rfl dX9_init_122 (fun H locs hW => ?_)
  refine lv_aload_n hx hb dX9_init_125 rfl (lv_at hl 0 rfl) ?_
  refine lv_bipush (v := 122) hx hb dX9_init_126 (by decide +kernel) ?_
  refine wa_newah (atype := .int) hC aint rfl 0 rfl (fun C h => by cases h) hW 122 (122, .inl (fun _ => 0)) (ha_int 122) (by decide +kernel) (by decide +kernel) (Nat.le_of_ble_eq_true rfl) (Nat.le_of_ble_eq_true rfl) (Nat.le_of_ble_eq_true rfl) dX9_init_128 (fun q16 H hW => ?_)
  refine wa_putFh hC i9 tyX9_ok nmX9 hW rfl 28 (Nat.le_of_ble_eq_true rfl) f56 rfl rfl hnm rfl rfl (Nat.le_of_ble_eq_true rfl) (fs' := [.int 0, .int 0, .ref q1, .int 0, .ref q2, .ref q3, .ref q4, .ref q5, .ref q6, .ref q7, .int 0, .ref q8, .ref q9, .int 0, .int 0, .ref q10, .int 0, .ref q11, .int 0, .int 0, .int 0, .int 0, .int 0, .int 0, .ref q12, .ref q13, .ref q14, .ref q15, .ref q16, .null, .null, .null, .null, .int 0, .int 0, .int 0, .int 0, .null, .null, .int 0]) rfl dX9_init_130 (fun H locs hW => ?_)
  refine lv_aload_n hx hb dX9_init_133 rfl (lv_at hl 0 rfl) ?_
  refine lv_bipush (v := 122) hx hb dX9_init_134 (by decide +kernel) ?_
  refine wa_newah (atype := .int) hC aint rfl 0 rfl (fun C h => by cases h) hW 122 (122, .inl (fun _ => 0)) (ha_int 122) (by decide +kernel) (by decide +kernel) (Nat.le_of_ble_eq_true rfl) (Nat.le_of_ble_eq_true rfl) (Nat.le_of_ble_eq_true rfl) dX9_init_136 (fun q17 H hW => ?_)
  refine wa_putFh hC i9 tyX9_ok nmX9 hW rfl 29 (Nat.le_of_ble_eq_true rfl) f59 rfl rfl hnm rfl rfl (Nat.le_of_ble_eq_true rfl) (fs' := [.int 0, .int 0, .ref q1, .int 0, .ref q2, .ref q3, .ref q4, .ref q5, .ref q6, .ref q7, .int 0, .ref q8, .ref q9, .int 0, .int 0, .ref q10, .int 0, .ref q11, .int 0, .int 0, .int 0, .int 0, .int 0, .int 0, .ref q12, .ref q13, .ref q14, .ref q15, .ref q16, .ref q17, .null, .null, .null, .int 0, .int 0, .int 0, .int 0, .null, .null, .int 0]) rfl dX9_init_138 (fun H locs hW => ?_)
  refine lv_aload_n hx hb dX9_init_141 rfl (lv_at hl 0 rfl) ?_
  refine lv_bipush (v := 121) hx hb dX9_init_142 (by decide +kernel) ?_
  refine wa_newah (atype := .int) hC aint rfl 0 rfl (fun C h => by cases h) hW 121 (121, .inl (fun _ => 0)) (ha_int 121) (by decide +kernel) (by decide +kernel) (Nat.le_of_ble_eq_true rfl) (Nat.le_of_ble_eq_true rfl) (Nat.le_of_ble_eq_true rfl) dX9_init_144 (fun q18 H hW => ?_)
  refine wa_putFh hC i9 tyX9_ok nmX9 hW rfl 30 (Nat.le_of_ble_eq_true rfl) f62 rfl rfl hnm rfl rfl (Nat.le_of_ble_eq_true rfl) (fs' := [.int 0, .int 0, .ref q1, .int 0, .ref q2, .ref q3, .ref q4, .ref q5, .ref q6, .ref q7, .int 0, .ref q8, .ref q9, .int 0, .int 0, .ref q10, .int 0, .ref q11, .int 0, .int 0, .int 0, .int 0, .int 0, .int 0, .ref q12, .ref q13, .ref q14, .ref q15, .ref q16, .ref q17, .ref q18, .null, .null, .int 0, .int 0, .int 0, .int 0, .null, .null, .int 0]) rfl dX9_init_146 (fun H locs hW => ?_)
  refine lv_aload_n hx hb dX9_init_149 rfl (lv_at hl 0 rfl) ?_
  refine lv_sipush (v := 484) hx hb dX9_init_150 (by decide +kernel) ?_
  refine wa_newah (atype := .int) hC aint rfl 0 rfl (fun C h => by cases h) hW 484 (484, .inl (fun _ => 0)) (ha_int 484) (by decide +kernel) (by decide +kernel) (Nat.le_of_ble_eq_true rfl) (Nat.le_of_ble_eq_true rfl) (Nat.le_of_ble_eq_true rfl) dX9_init_153 (fun q19 H hW => ?_)
  refine wa_putFh hC i9 tyX9_ok nmX9 hW rfl 31 (Nat.le_of_ble_eq_true rfl) f65 rfl rfl hnm rfl rfl (Nat.le_of_ble_eq_true rfl) (fs' := [.int 0, .int 0, .ref q1, .int 0, .ref q2, .ref q3, .ref q4, .ref q5, .ref q6, .ref q7, .int 0, .ref q8, .ref q9, .int 0, .int 0, .ref q10, .int 0, .ref q11, .int 0, .int 0, .int 0, .int 0, .int 0, .int 0, .ref q12, .ref q13, .ref q14, .ref q15, .ref q16, .ref q17, .ref q18, .ref q19, .null, .int 0, .int 0, .int 0, .int 0, .null, .null, .int 0]) rfl dX9_init_155 (fun H locs hW => ?_)
  refine lv_aload_n hx hb dX9_init_158 rfl (lv_at hl 0 rfl) ?_
  refine lv_sipush (v := 28224) hx hb dX9_init_159 (by decide +kernel) ?_
  refine wa_newah (atype := .int) hC aint rfl 0 rfl (fun C h => by cases h) hW 28224 (28224, .inl (fun _ => 0)) (ha_int 28224) (by decide +kernel) (by decide +kernel) (Nat.le_of_ble_eq_true rfl) (Nat.le_of_ble_eq_true rfl) (Nat.le_of_ble_eq_true rfl) dX9_init_162 (fun q20 H hW => ?_)
  refine wa_putFh hC i9 tyX9_ok nmX9 hW rfl 32 (Nat.le_of_ble_eq_true rfl) f68 rfl rfl hnm rfl rfl (Nat.le_of_ble_eq_true rfl) (fs' := [.int 0, .int 0, .ref q1, .int 0, .ref q2, .ref q3, .ref q4, .ref q5, .ref q6, .ref q7, .int 0, .ref q8, .ref q9, .int 0, .int 0, .ref q10, .int 0, .ref q11, .int 0, .int 0, .int 0, .int 0, .int 0, .int 0, .ref q12, .ref q13, .ref q14, .ref q15, .ref q16, .ref q17, .ref q18, .ref q19, .ref q20, .int 0, .int 0, .int 0, .int 0, .null, .null, .int 0]) rfl dX9_init_164 (fun H locs hW => ?_)
  refine lv_aload_n hx hb dX9_init_167 rfl (lv_at hl 0 rfl) ?_
  refine lv_sipush (v := 15129) hx hb dX9_init_168 (by decide +kernel) ?_
  refine wa_newah (atype := .int) hC aint rfl 0 rfl (fun C h => by cases h) hW 15129 (15129, .inl (fun _ => 0)) (ha_int 15129) (by decide +kernel) (by decide +kernel) (Nat.le_of_ble_eq_true rfl) (Nat.le_of_ble_eq_true rfl) (Nat.le_of_ble_eq_true rfl) dX9_init_171 (fun q21 H hW => ?_)
  refine wa_putFh hC i9 tyX9_ok nmX9 hW rfl 37 (Nat.le_of_ble_eq_true rfl) f71 rfl rfl hnm rfl rfl (Nat.le_of_ble_eq_true rfl) (fs' := [.int 0, .int 0, .ref q1, .int 0, .ref q2, .ref q3, .ref q4, .ref q5, .ref q6, .ref q7, .int 0, .ref q8, .ref q9, .int 0, .int 0, .ref q10, .int 0, .ref q11, .int 0, .int 0, .int 0, .int 0, .int 0, .int 0, .ref q12, .ref q13, .ref q14, .ref q15, .ref q16, .ref q17, .ref q18, .ref q19, .ref q20, .int 0, .int 0, .int 0, .int 0, .ref q21, .null, .int 0]) rfl dX9_init_173 (fun H locs hW => ?_)
  refine lv_aload_n hx hb dX9_init_176 rfl (lv_at hl 0 rfl) ?_
  refine lv_sipush (v := 15129) hx hb dX9_init_177 (by decide +kernel) ?_
  refine wa_newah (atype := .int) hC aint rfl 0 rfl (fun C h => by cases h) hW 15129 (15129, .inl (fun _ => 0)) (ha_int 15129) (by decide +kernel) (by decide +kernel) (Nat.le_of_ble_eq_true rfl) (Nat.le_of_ble_eq_true rfl) (Nat.le_of_ble_eq_true rfl) dX9_init_180 (fun q22 H hW => ?_)
  refine wa_putFh hC i9 tyX9_ok nmX9 hW rfl 38 (Nat.le_of_ble_eq_true rfl) f74 rfl rfl hnm rfl rfl (Nat.le_of_ble_eq_true rfl) (fs' := [.int 0, .int 0, .ref q1, .int 0, .ref q2, .ref q3, .ref q4, .ref q5, .ref q6, .ref q7, .int 0, .ref q8, .ref q9, .int 0, .int 0, .ref q10, .int 0, .ref q11, .int 0, .int 0, .int 0, .int 0, .int 0, .int 0, .ref q12, .ref q13, .ref q14, .ref q15, .ref q16, .ref q17, .ref q18, .ref q19, .ref q20, .int 0, .int 0, .int 0, .int 0, .ref q21, .ref q22, .int 0]) rfl dX9_init_182 (fun H locs hW => ?_)
  exact wa_vret hA hQ hC hr hk hW ⟨rfl, q1, q2, q3, q4, q5, q6, q7, q8, q9, q10, q11, q12, q13, q14, q15, q16, q17, q18, q19, q20, q21, q22, rfl⟩ (Nat.le_of_ble_eq_true rfl) (Nat.le_of_ble_eq_true rfl) dX9_init_185
