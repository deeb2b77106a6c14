def m_X8_heavyN (n : Nat) (S : St) (p0 : Int32) : Option (Int32 × St) :=
  (m_X8_isLifter S p0).bind (fun r1 => if r1 = 0 then (some ((-1), S)) else ((m_X0_beMass n S).bind (fun r4 => none)))
set_option maxHeartbeats 4000000 in
set_option maxRecDepth 100000 in
theorem c_X8_heavyN (l : Launch) (D : va_G) (cy : Nat → ClassId) (ad : Nat → Nat) (X : va_W) (n : Nat) (S : St) (p0 : Int32) (r : (Int32 × St)) (h : m_X8_heavyN n S p0 = some r) : CT l yX8_heavy (wu yX8_heavy cX8_heavy 2 (some .int)) 1 D cy [.ref (ad 0), .int p0] (wC ad cy S ++ X) (some (.int r.1)) (wC ad cy r.2 ++ X) := by
  refine CT.mk (cc := cX8_heavy) (maxL := 2) (ret := (some .int)) (own := RX8) (by decide) rfl rfl (Nat.le_of_ble_eq_true rfl) ?_
  intro p e s m args below meth c ls A Q hA hQ hC hr hk hW hl
  have hx := hC.1
  have hb := hC.2.1
  have hown := hC.2.2.2.1
  have hts := hC.2.2.2.2
  have hl : lv_has ls 2 [(0, .ref (ad 0)), (1, .int p0)] := hl
  have f45 := hts _ (wu_in w_2_9)
  have i8 := (fun w h => wu_in (inc_8 w h) : ∀ w ∈ u_ws RX8 TX8 12, w ∈ (wu yX8_heavy cX8_heavy 2 (some .int)))
  unfold m_X8_heavyN at h
  refine lv_aload_n hx hb dX8_heavy_0 rfl (lv_at hl 0 rfl) ?_
  refine lv_iload_n hx hb dX8_heavy_1 rfl (lv_at hl 1 rfl) ?_
  obtain ⟨r1, hr2, h⟩ := bd_of h
  refine wd_callV1 (As := [.int p0]) hC hW 0 wC_c0 rfl (c_X8_isLifter l D cy ad X S p0 r1 hr2) (cwV 1 hts (gu_V w_13_9 w_13_6 w_13_7 w_13_8 w_1_2) rfl rfl rfl hdX8_isLifter ⟨Nat.le_of_ble_eq_true rfl, Nat.le_of_ble_eq_true rfl⟩) rfl hl.1 rfl (Nat.le_of_ble_eq_true rfl) ⟨Nat.zero_le _, Nat.zero_le _⟩ dX8_heavy_2 (fun H locs hW => ?_)
  refine lv_if_ne (tgt := 10) hx hb dX8_heavy_5 (by decide) (fun c3 => ?_) (fun c3 => ?_)
  · replace h := ite_f h c3
    refine lv_aload_n hx hb dX8_heavy_10 rfl (lv_at hl 0 rfl) ?_
    refine wd_get hC i8 hW 0 wC_c0 rfl 5 (Nat.le_of_ble_eq_true rfl) f45 rfl rfl dX8_heavy_11 ?_
    obtain ⟨r4, hr5, h⟩ := bd_of h
    refine wd_callV0 (As := []) hC hW 44 wC_c44 rfl (c_X0_beMass l D cy ad X n S r4 hr5) (cwV 0 hts (gu_V w_25_12 w_25_9 w_25_10 w_25_11 w_2_8) rfl rfl rfl hdX0_beMass ⟨Nat.le_of_ble_eq_true rfl, Nat.le_of_ble_eq_true rfl⟩) rfl hl.1 rfl (Nat.le_of_ble_eq_true rfl) ⟨Nat.zero_le _, Nat.zero_le _⟩ dX8_heavy_14 (fun H locs hW => ?_)
    refine lv_aload_n hx hb dX8_heavy_17 rfl (lv_at hl 0 rfl) ?_
    refine lv_iload_n hx hb dX8_heavy_18 rfl (lv_at hl 1 rfl) ?_
    cases h
  · replace h := ite_t h c3
    refine lv_iconst (v := (-1)) hx hb dX8_heavy_8 (by decide) ?_
    obtain rfl := Option.some.inj h
    exact wd_iret hA hQ hC hr hk hW dX8_heavy_9
def m_X8_reachN (n : Nat) (S : St) (p0 : Int32) (p1 : Int32) : Option (Int32 × St) :=
  (m_X8_isLifter S p0).bind (fun r1 => if r1 = 0 then (some ((-1), S)) else ((m_X8_isAimed S p1).bind (fun r4 => if r4 = 0 then (some ((-1), S)) else ((m_X0_beReach n S p1).bind (fun r7 => none)))))
set_option maxHeartbeats 4000000 in
set_option maxRecDepth 100000 in
theorem c_X8_reachN (l : Launch) (D : va_G) (cy : Nat → ClassId) (ad : Nat → Nat) (X : va_W) (n : Nat) (S : St) (p0 : Int32) (p1 : Int32) (r : (Int32 × St)) (h : m_X8_reachN n S p0 p1 = some r) : CT l yX8_reach (wu yX8_reach cX8_reach 3 (some .int)) 1 D cy [.ref (ad 0), .int p0, .int p1] (wC ad cy S ++ X) (some (.int r.1)) (wC ad cy r.2 ++ X) := by
  refine CT.mk (cc := cX8_reach) (maxL := 3) (ret := (some .int)) (own := RX8) (by decide) rfl rfl (Nat.le_of_ble_eq_true rfl) ?_
  intro p e s m args below meth c ls A Q hA hQ hC hr hk hW hl
  have hx := hC.1
  have hb := hC.2.1
  have hown := hC.2.2.2.1
  have hts := hC.2.2.2.2
  have hl : lv_has ls 3 [(0, .ref (ad 0)), (1, .int p0), (2, .int p1)] := hl
  have f45 := hts _ (wu_in w_2_9)
  have i8 := (fun w h => wu_in (inc_8 w h) : ∀ w ∈ u_ws RX8 TX8 12, w ∈ (wu yX8_reach cX8_reach 3 (some .int)))
  unfold m_X8_reachN at h
  refine lv_aload_n hx hb dX8_reach_0 rfl (lv_at hl 0 rfl) ?_
  refine lv_iload_n hx hb dX8_reach_1 rfl (lv_at hl 1 rfl) ?_
  obtain ⟨r1, hr2, h⟩ := bd_of h
  refine wd_callV1 (As := [.int p0]) hC hW 0 wC_c0 rfl (c_X8_isLifter l D cy ad X S p0 r1 hr2) (cwV 1 hts (gu_V w_13_9 w_13_6 w_13_7 w_13_8 w_1_2) rfl rfl rfl hdX8_isLifter ⟨Nat.le_of_ble_eq_true rfl, Nat.le_of_ble_eq_true rfl⟩) rfl hl.1 rfl (Nat.le_of_ble_eq_true rfl) ⟨Nat.zero_le _, Nat.zero_le _⟩ dX8_reach_2 (fun H locs hW => ?_)
  refine lv_if_eq (tgt := 15) hx hb dX8_reach_5 (by decide) (fun c3 => ?_) (fun c3 => ?_)
  · replace h := ite_t h c3
    refine lv_iconst (v := (-1)) hx hb dX8_reach_15 (by decide) ?_
    obtain rfl := Option.some.inj h
    exact wd_iret hA hQ hC hr hk hW dX8_reach_16
  · replace h := ite_f h c3
    refine lv_iload_n hx hb dX8_reach_8 rfl (lv_at hl 2 rfl) ?_
    obtain ⟨r4, hr5, h⟩ := bd_of h
    refine wd_callS1 (As := [.int p1]) hC hW (c_X8_isAimed l D cy ad X S p1 r4 hr5) (va_cwS 1 hts (gu_S w_29_14 w_29_12 w_29_13 w_1_2) rfl rfl rfl hdX8_isAimed ⟨Nat.le_of_ble_eq_true rfl, Nat.le_of_ble_eq_true rfl⟩) rfl hl.1 rfl (Nat.le_of_ble_eq_true rfl) ⟨Nat.zero_le _, Nat.zero_le _⟩ dX8_reach_9 (fun H locs hW => ?_)
    refine lv_if_ne (tgt := 17) hx hb dX8_reach_12 (by decide) (fun c6 => ?_) (fun c6 => ?_)
    · replace h := ite_f h c6
      refine lv_aload_n hx hb dX8_reach_17 rfl (lv_at hl 0 rfl) ?_
      refine wd_get hC i8 hW 0 wC_c0 rfl 5 (Nat.le_of_ble_eq_true rfl) f45 rfl rfl dX8_reach_18 ?_
      refine lv_iload_n hx hb dX8_reach_21 rfl (lv_at hl 2 rfl) ?_
      obtain ⟨r7, hr8, h⟩ := bd_of h
      refine wd_callV0 (As := [.int p1]) hC hW 44 wC_c44 rfl (c_X0_beReach l D cy ad X n S p1 r7 hr8) (cwV 1 hts (gu_V w_29_18 w_29_15 w_29_16 w_29_17 w_2_8) rfl rfl rfl hdX0_beReach ⟨Nat.le_of_ble_eq_true rfl, Nat.le_of_ble_eq_true rfl⟩) rfl hl.1 rfl (Nat.le_of_ble_eq_true rfl) ⟨Nat.zero_le _, Nat.zero_le _⟩ dX8_reach_22 (fun H locs hW => ?_)
      refine lv_aload_n hx hb dX8_reach_25 rfl (lv_at hl 0 rfl) ?_
      refine lv_iload_n hx hb dX8_reach_26 rfl (lv_at hl 1 rfl) ?_
      cases h
    · replace h := ite_t h c6
      refine lv_iconst (v := (-1)) hx hb dX8_reach_15 (by decide) ?_
      obtain rfl := Option.some.inj h
      exact wd_iret hA hQ hC hr hk hW dX8_reach_16
def m_X8_aimN (S : St) (p0 : Int32) (p1 : Int32) : Option (Int32 × St) :=
  (m_X8_isLifter S p0).bind (fun r1 => if r1 = 0 then (some ((-1), S)) else (if p1 < 1 then (some ((-1), S)) else (if p1 ≤ 1000000 then none else (some ((-1), S)))))
set_option maxHeartbeats 4000000 in
set_option maxRecDepth 100000 in
theorem c_X8_aimN (l : Launch) (D : va_G) (cy : Nat → ClassId) (ad : Nat → Nat) (X : va_W) (S : St) (p0 : Int32) (p1 : Int32) (r : (Int32 × St)) (h : m_X8_aimN S p0 p1 = some r) : CT l yX8_aim (wu yX8_aim cX8_aim 9 (some .int)) 1 D cy [.ref (ad 0), .int p0, .int p1] (wC ad cy S ++ X) (some (.int r.1)) (wC ad cy r.2 ++ X) := by
  refine CT.mk (cc := cX8_aim) (maxL := 9) (ret := (some .int)) (own := RX8) (by decide) rfl rfl (Nat.le_of_ble_eq_true rfl) ?_
  intro p e s m args below meth c ls A Q hA hQ hC hr hk hW hl
  have hx := hC.1
  have hb := hC.2.1
  have hown := hC.2.2.2.1
  have hts := hC.2.2.2.2
  have hl : lv_has ls 9 [(0, .ref (ad 0)), (1, .int p0), (2, .int p1)] := hl
  have k213 := hts _ (wu_in w_30_22)
  unfold m_X8_aimN at h
  refine lv_aload_n hx hb dX8_aim_0 rfl (lv_at hl 0 rfl) ?_
  refine lv_iload_n hx hb dX8_aim_1 rfl (lv_at hl 1 rfl) ?_
  obtain ⟨r1, hr2, h⟩ := bd_of h
  refine wd_callV1 (As := [.int p0]) hC hW 0 wC_c0 rfl (c_X8_isLifter l D cy ad X S p0 r1 hr2) (cwV 1 hts (gu_V w_13_9 w_13_6 w_13_7 w_13_8 w_1_2) rfl rfl rfl hdX8_isLifter ⟨Nat.le_of_ble_eq_true rfl, Nat.le_of_ble_eq_true rfl⟩) rfl hl.1 rfl (Nat.le_of_ble_eq_true rfl) ⟨Nat.zero_le _, Nat.zero_le _⟩ dX8_aim_2 (fun H locs hW => ?_)
  refine lv_if_eq (tgt := 19) hx hb dX8_aim_5 (by decide) (fun c3 => ?_) (fun c3 => ?_)
  · replace h := ite_t h c3
    refine lv_iconst (v := (-1)) hx hb dX8_aim_19 (by decide) ?_
    obtain rfl := Option.some.inj h
    exact wd_iret hA hQ hC hr hk hW dX8_aim_20
  · replace h := ite_f h c3
    refine lv_iload_n hx hb dX8_aim_8 rfl (lv_at hl 2 rfl) ?_
    refine lv_iconst (v := 1) hx hb dX8_aim_9 (by decide) ?_
    refine lv_icmp_lt (tgt := 19) hx hb dX8_aim_10 (by decide) (fun c4 => ?_) (fun c4 => ?_)
    · replace h := ite_t h c4
      refine lv_iconst (v := (-1)) hx hb dX8_aim_19 (by decide) ?_
      obtain rfl := Option.some.inj h
      exact wd_iret hA hQ hC hr hk hW dX8_aim_20
    · replace h := ite_f h c4
      refine lv_iload_n hx hb dX8_aim_13 rfl (lv_at hl 2 rfl) ?_
      refine lv_ldc hx hb hown k213 dX8_aim_14 ?_
      refine lv_icmp_le (tgt := 21) hx hb dX8_aim_16 (by decide) (fun c5 => ?_) (fun c5 => ?_)
      · replace h := ite_t h c5
        refine lv_aload_n hx hb dX8_aim_21 rfl (lv_at hl 0 rfl) ?_
        refine lv_iload_n hx hb dX8_aim_22 rfl (lv_at hl 1 rfl) ?_
        refine lv_iconst (v := 1) hx hb dX8_aim_23 (by decide) ?_
        cases h
      · replace h := ite_f h c5
        refine lv_iconst (v := (-1)) hx hb dX8_aim_19 (by decide) ?_
        obtain rfl := Option.some.inj h
        exact wd_iret hA hQ hC hr hk hW dX8_aim_20
def m_X8_againstN (n : Nat) (S : St) (p0 : Int32) (p1 : Int32) : Option (Int32 × St) :=
  (m_X8_isLifter S p0).bind (fun r1 => if r1 = 0 then (some ((-1), S)) else ((m_X8_isLifter S p1).bind (fun r4 => if r4 = 0 then (some ((-1), S)) else (if p0 = p1 then (some ((-1), S)) else ((m_X8_aimToBeat n S p0 p1).bind (fun r8 => none))))))
set_option maxHeartbeats 4000000 in
set_option maxRecDepth 100000 in
theorem c_X8_againstN (l : Launch) (D : va_G) (cy : Nat → ClassId) (ad : Nat → Nat) (X : va_W) (n : Nat) (S : St) (p0 : Int32) (p1 : Int32) (r : (Int32 × St)) (h : m_X8_againstN n S p0 p1 = some r) : CT l yX8_against (wu yX8_against cX8_against 3 (some .int)) 45 D cy [.ref (ad 0), .int p0, .int p1] (wC ad cy S ++ X) (some (.int r.1)) (wC ad cy r.2 ++ X) := by
  refine CT.mk (cc := cX8_against) (maxL := 3) (ret := (some .int)) (own := RX8) (by decide) rfl rfl (Nat.le_of_ble_eq_true rfl) ?_
  intro p e s m args below meth c ls A Q hA hQ hC hr hk hW hl
  have hx := hC.1
  have hb := hC.2.1
  have hown := hC.2.2.2.1
  have hts := hC.2.2.2.2
  have hl : lv_has ls 3 [(0, .ref (ad 0)), (1, .int p0), (2, .int p1)] := hl
  unfold m_X8_againstN at h
  refine lv_aload_n hx hb dX8_against_0 rfl (lv_at hl 0 rfl) ?_
  refine lv_iload_n hx hb dX8_against_1 rfl (lv_at hl 1 rfl) ?_
  obtain ⟨r1, hr2, h⟩ := bd_of h
  refine wd_callV1 (As := [.int p0]) hC hW 0 wC_c0 rfl (c_X8_isLifter l D cy ad X S p0 r1 hr2) (cwV 1 hts (gu_V w_13_9 w_13_6 w_13_7 w_13_8 w_1_2) rfl rfl rfl hdX8_isLifter ⟨Nat.le_of_ble_eq_true rfl, Nat.le_of_ble_eq_true rfl⟩) rfl hl.1 rfl (Nat.le_of_ble_eq_true rfl) ⟨Nat.zero_le _, Nat.zero_le _⟩ dX8_against_2 (fun H locs hW => ?_)
  refine lv_if_eq (tgt := 21) hx hb dX8_against_5 (by decide) (fun c3 => ?_) (fun c3 => ?_)
  · replace h := ite_t h c3
    refine lv_iconst (v := (-1)) hx hb dX8_against_21 (by decide) ?_
    obtain rfl := Option.some.inj h
    exact wd_iret hA hQ hC hr hk hW dX8_against_22
  · replace h := ite_f h c3
    refine lv_aload_n hx hb dX8_against_8 rfl (lv_at hl 0 rfl) ?_
    refine lv_iload_n hx hb dX8_against_9 rfl (lv_at hl 2 rfl) ?_
    obtain ⟨r4, hr5, h⟩ := bd_of h
    refine wd_callV1 (As := [.int p1]) hC hW 0 wC_c0 rfl (c_X8_isLifter l D cy ad X S p1 r4 hr5) (cwV 1 hts (gu_V w_13_9 w_13_6 w_13_7 w_13_8 w_1_2) rfl rfl rfl hdX8_isLifter ⟨Nat.le_of_ble_eq_true rfl, Nat.le_of_ble_eq_true rfl⟩) rfl hl.1 rfl (Nat.le_of_ble_eq_true rfl) ⟨Nat.zero_le _, Nat.zero_le _⟩ dX8_against_10 (fun H locs hW => ?_)
    refine lv_if_eq (tgt := 21) hx hb dX8_against_13 (by decide) (fun c6 => ?_) (fun c6 => ?_)
    · replace h := ite_t h c6
      refine lv_iconst (v := (-1)) hx hb dX8_against_21 (by decide) ?_
      obtain rfl := Option.some.inj h
      exact wd_iret hA hQ hC hr hk hW dX8_against_22
    · replace h := ite_f h c6
      refine lv_iload_n hx hb dX8_against_16 rfl (lv_at hl 1 rfl) ?_
      refine lv_iload_n hx hb dX8_against_17 rfl (lv_at hl 2 rfl) ?_
      refine lv_icmp_ne (tgt := 23) hx hb dX8_against_18 (by decide) (fun c7 => ?_) (fun c7 => ?_)
      · replace h := ite_f h c7
        refine lv_aload_n hx hb dX8_against_23 rfl (lv_at hl 0 rfl) ?_
        refine lv_iload_n hx hb dX8_against_24 rfl (lv_at hl 1 rfl) ?_
        refine lv_iload_n hx hb dX8_against_25 rfl (lv_at hl 2 rfl) ?_
        obtain ⟨r8, hr9, h⟩ := bd_of h
        refine wd_callV0 (As := [.int p0, .int p1]) hC hW 0 wC_c0 rfl (c_X8_aimToBeat l D cy ad X n S p0 p1 r8 hr9) (cwV 2 hts (gu_V w_31_19 w_31_16 w_31_17 w_31_18 w_1_2) rfl rfl rfl hdX8_aimToBeat ⟨Nat.le_of_ble_eq_true rfl, Nat.le_of_ble_eq_true rfl⟩) rfl hl.1 rfl (Nat.le_of_ble_eq_true rfl) ⟨Nat.zero_le _, Nat.zero_le _⟩ dX8_against_26 (fun H locs hW => ?_)
        refine lv_aload_n hx hb dX8_against_29 rfl (lv_at hl 0 rfl) ?_
        refine lv_iload_n hx hb dX8_against_30 rfl (lv_at hl 1 rfl) ?_
        cases h
      · replace h := ite_t h c7
        refine lv_iconst (v := (-1)) hx hb dX8_against_21 (by decide) ?_
        obtain rfl := Option.some.inj h
        exact wd_iret hA hQ hC hr hk hW dX8_against_22
def m_X8_goldN (n : Nat) (S : St) (p0 : Int32) : Option (Int32 × St) :=
  (m_X8_isLifter S p0).bind (fun r1 => if r1 = 0 then (some ((-1), S)) else ((m_X8_aimToWin n S p0).bind (fun r4 => none)))
set_option maxHeartbeats 4000000 in
set_option maxRecDepth 100000 in
theorem c_X8_goldN (l : Launch) (D : va_G) (cy : Nat → ClassId) (ad : Nat → Nat) (X : va_W) (n : Nat) (S : St) (p0 : Int32) (r : (Int32 × St)) (h : m_X8_goldN n S p0 = some r) : CT l yX8_gold (wu yX8_gold cX8_gold 2 (some .int)) 45 D cy [.ref (ad 0), .int p0] (wC ad cy S ++ X) (some (.int r.1)) (wC ad cy r.2 ++ X) := by
  refine CT.mk (cc := cX8_gold) (maxL := 2) (ret := (some .int)) (own := RX8) (by decide) rfl rfl (Nat.le_of_ble_eq_true rfl) ?_
  intro p e s m args below meth c ls A Q hA hQ hC hr hk hW hl
  have hx := hC.1
  have hb := hC.2.1
  have hown := hC.2.2.2.1
  have hts := hC.2.2.2.2
  have hl : lv_has ls 2 [(0, .ref (ad 0)), (1, .int p0)] := hl
  unfold m_X8_goldN at h
  refine lv_aload_n hx hb dX8_gold_0 rfl (lv_at hl 0 rfl) ?_
  refine lv_iload_n hx hb dX8_gold_1 rfl (lv_at hl 1 rfl) ?_
  obtain ⟨r1, hr2, h⟩ := bd_of h
  refine wd_callV1 (As := [.int p0]) hC hW 0 wC_c0 rfl (c_X8_isLifter l D cy ad X S p0 r1 hr2) (cwV 1 hts (gu_V w_13_9 w_13_6 w_13_7 w_13_8 w_1_2) rfl rfl rfl hdX8_isLifter ⟨Nat.le_of_ble_eq_true rfl, Nat.le_of_ble_eq_true rfl⟩) rfl hl.1 rfl (Nat.le_of_ble_eq_true rfl) ⟨Nat.zero_le _, Nat.zero_le _⟩ dX8_gold_2 (fun H locs hW => ?_)
  refine lv_if_ne (tgt := 10) hx hb dX8_gold_5 (by decide) (fun c3 => ?_) (fun c3 => ?_)
  · replace h := ite_f h c3
    refine lv_aload_n hx hb dX8_gold_10 rfl (lv_at hl 0 rfl) ?_
    refine lv_iload_n hx hb dX8_gold_11 rfl (lv_at hl 1 rfl) ?_
    obtain ⟨r4, hr5, h⟩ := bd_of h
    refine wd_callV0 (As := [.int p0]) hC hW 0 wC_c0 rfl (c_X8_aimToWin l D cy ad X n S p0 r4 hr5) (cwV 1 hts (gu_V w_41_17 w_41_14 w_41_15 w_41_16 w_1_2) rfl rfl rfl hdX8_aimToWin ⟨Nat.le_of_ble_eq_true rfl, Nat.le_of_ble_eq_true rfl⟩) rfl hl.1 rfl (Nat.le_of_ble_eq_true rfl) ⟨Nat.zero_le _, Nat.zero_le _⟩ dX8_gold_12 (fun H locs hW => ?_)
    refine lv_aload_n hx hb dX8_gold_15 rfl (lv_at hl 0 rfl) ?_
    refine lv_iload_n hx hb dX8_gold_16 rfl (lv_at hl 1 rfl) ?_
    cases h
  · replace h := ite_t h c3
    refine lv_iconst (v := (-1)) hx hb dX8_gold_8 (by decide) ?_
    obtain rfl := Option.some.inj h
    exact wd_iret hA hQ hC hr hk hW dX8_gold_9
def m_X8_lineN (n : Nat) (S : St) (p0 : Int32) (p1 : Int32) (p2 : Int32) : Option (Int32 × St) :=
  (m_X8_isLifter S p0).bind (fun r1 => if r1 = 0 then (some ((-1), S)) else (if p1 < 0 then (some ((-1), S)) else (if p1 ≤ 1 then (((if p1 = 0 then ((m_X0_beMass n S).bind (fun r11 => some r11)) else ((m_X8_aimToWin n S p0).bind (fun r9 => some r9)) : Option (St))).bind (fun q7 => none)) else (some ((-1), S)))))
set_option maxHeartbeats 4000000 in
set_option maxRecDepth 100000 in
theorem c_X8_lineN (l : Launch) (D : va_G) (cy : Nat → ClassId) (ad : Nat → Nat) (X : va_W) (n : Nat) (S : St) (p0 : Int32) (p1 : Int32) (p2 : Int32) (r : (Int32 × St)) (h : m_X8_lineN n S p0 p1 p2 = some r) : CT l yX8_line (wu yX8_line cX8_line 6 (some .int)) 45 D cy [.ref (ad 0), .int p0, .int p1, .int p2] (wC ad cy S ++ X) (some (.int r.1)) (wC ad cy r.2 ++ X) := by
  refine CT.mk (cc := cX8_line) (maxL := 6) (ret := (some .int)) (own := RX8) (by decide) rfl rfl (Nat.le_of_ble_eq_true rfl) ?_
  intro p e s m args below meth c ls A Q hA hQ hC hr hk hW hl
  have hx := hC.1
  have hb := hC.2.1
  have hown := hC.2.2.2.1
  have hts := hC.2.2.2.2
  have hl : lv_has ls 6 [(0, .ref (ad 0)), (1, .int p0), (2, .int p1), (3, .int p2)] := hl
  have f45 := hts _ (wu_in w_2_9)
  have i8 := (fun w h => wu_in (inc_8 w h) : ∀ w ∈ u_ws RX8 TX8 12, w ∈ (wu yX8_line cX8_line 6 (some .int)))
  unfold m_X8_lineN at h
  refine lv_aload_n hx hb dX8_line_0 rfl (lv_at hl 0 rfl) ?_
  refine lv_iload_n hx hb dX8_line_1 rfl (lv_at hl 1 rfl) ?_
  obtain ⟨r1, hr2, h⟩ := bd_of h
  refine wd_callV1 (As := [.int p0]) hC hW 0 wC_c0 rfl (c_X8_isLifter l D cy ad X S p0 r1 hr2) (cwV 1 hts (gu_V w_13_9 w_13_6 w_13_7 w_13_8 w_1_2) rfl rfl rfl hdX8_isLifter ⟨Nat.le_of_ble_eq_true rfl, Nat.le_of_ble_eq_true rfl⟩) rfl hl.1 rfl (Nat.le_of_ble_eq_true rfl) ⟨Nat.zero_le _, Nat.zero_le _⟩ dX8_line_2 (fun H locs hW => ?_)
  refine lv_if_eq (tgt := 17) hx hb dX8_line_5 (by decide) (fun c3 => ?_) (fun c3 => ?_)
  · replace h := ite_t h c3
    refine lv_iconst (v := (-1)) hx hb dX8_line_17 (by decide) ?_
    obtain rfl := Option.some.inj h
    exact wd_iret hA hQ hC hr hk hW dX8_line_18
  · replace h := ite_f h c3
    refine lv_iload_n hx hb dX8_line_8 rfl (lv_at hl 2 rfl) ?_
    refine lv_if_lt (tgt := 17) hx hb dX8_line_9 (by decide) (fun c4 => ?_) (fun c4 => ?_)
    · replace h := ite_t h c4
      refine lv_iconst (v := (-1)) hx hb dX8_line_17 (by decide) ?_
      obtain rfl := Option.some.inj h
      exact wd_iret hA hQ hC hr hk hW dX8_line_18
    · replace h := ite_f h c4
      refine lv_iload_n hx hb dX8_line_12 rfl (lv_at hl 2 rfl) ?_
      refine lv_iconst (v := 1) hx hb dX8_line_13 (by decide) ?_
      refine lv_icmp_le (tgt := 19) hx hb dX8_line_14 (by decide) (fun c5 => ?_) (fun c5 => ?_)
      · replace h := ite_t h c5
        refine lv_iload_n hx hb dX8_line_19 rfl (lv_at hl 2 rfl) ?_
        obtain ⟨q7, hq8, h⟩ := bd_of h
        have hJ38 : ∀ (H : Heap) (locs : List Loc) (ls : Array Slot), Wd D cy A s (wC ad cy q7 ++ X) H locs → lv_has ls 6 [(0, .ref (ad 0)), (1, .int p0), (2, .int p1), (3, .int p2)] → W p l e (RM 45) s m args below meth c H locs 0 0 Q (F0 m 38 ls []) := by
          intro H locs ls hW hl
          refine lv_aload_n hx hb dX8_line_38 rfl (lv_at hl 0 rfl) ?_
          refine lv_iload_n hx hb dX8_line_39 rfl (lv_at hl 1 rfl) ?_
          refine lv_iconst (v := 0) hx hb dX8_line_40 (by decide) ?_
          cases h
        replace h := hq8
        refine lv_if_ne (tgt := 33) hx hb dX8_line_20 (by decide) (fun c6 => ?_) (fun c6 => ?_)
        · replace h := ite_f h c6
          refine lv_aload_n hx hb dX8_line_33 rfl (lv_at hl 0 rfl) ?_
          refine lv_iload_n hx hb dX8_line_34 rfl (lv_at hl 1 rfl) ?_
          obtain ⟨r9, hr10, h⟩ := bd_of h
          refine wd_callV0 (As := [.int p0]) hC hW 0 wC_c0 rfl (c_X8_aimToWin l D cy ad X n S p0 r9 hr10) (cwV 1 hts (gu_V w_41_17 w_41_14 w_41_15 w_41_16 w_1_2) rfl rfl rfl hdX8_aimToWin ⟨Nat.le_of_ble_eq_true rfl, Nat.le_of_ble_eq_true rfl⟩) rfl hl.1 rfl (Nat.le_of_ble_eq_true rfl) ⟨Nat.zero_le _, Nat.zero_le _⟩ dX8_line_35 (fun H locs hW => ?_)
          obtain rfl := Option.some.inj h
          exact hJ38 _ _ _ hW (lv_sub hl [0, 1, 2, 3] rfl)
        · replace h := ite_t h c6
          refine lv_aload_n hx hb dX8_line_23 rfl (lv_at hl 0 rfl) ?_
          refine wd_get hC i8 hW 0 wC_c0 rfl 5 (Nat.le_of_ble_eq_true rfl) f45 rfl rfl dX8_line_24 ?_
          obtain ⟨r11, hr12, h⟩ := bd_of h
          refine wd_callV0 (As := []) hC hW 44 wC_c44 rfl (c_X0_beMass l D cy ad X n S r11 hr12) (cwV 0 hts (gu_V w_25_12 w_25_9 w_25_10 w_25_11 w_2_8) rfl rfl rfl hdX0_beMass ⟨Nat.le_of_ble_eq_true rfl, Nat.le_of_ble_eq_true rfl⟩) rfl hl.1 rfl (Nat.le_of_ble_eq_true rfl) ⟨Nat.zero_le _, Nat.zero_le _⟩ dX8_line_27 (fun H locs hW => ?_)
          refine lv_goto (tgt := 38) hx hb dX8_line_30 (by decide) ?_
          obtain rfl := Option.some.inj h
          exact hJ38 _ _ _ hW (lv_sub hl [0, 1, 2, 3] rfl)
      · replace h := ite_f h c5
        refine lv_iconst (v := (-1)) hx hb dX8_line_17 (by decide) ?_
        obtain rfl := Option.some.inj h
        exact wd_iret hA hQ hC hr hk hW dX8_line_18
def m_X8_fightN (S : St) (p0 : Int32) (p1 : Int32) (p2 : Int32) (p3 : Int32) (p4 : Int32) : Option (Int32 × St) :=
  if (S.1 32) = 2 then (if (S.1 33) = 2 then ((m_X4_waits 30 25 S p0).bind (fun r3 => if r3 = 0 then (some ((-3), S)) else ((m_X4_waits 30 25 S p1).bind (fun r6 => if r6 = 0 then (some ((-3), S)) else (ckz (S.2.2.2 3) (none)))))) else (some ((-2), S))) else (some ((-2), S))
set_option maxHeartbeats 4000000 in
set_option maxRecDepth 100000 in
theorem c_X8_fightN (l : Launch) (D : va_G) (cy : Nat → ClassId) (ad : Nat → Nat) (X : va_W) (S : St) (p0 : Int32) (p1 : Int32) (p2 : Int32) (p3 : Int32) (p4 : Int32) (r : (Int32 × St)) (h : m_X8_fightN S p0 p1 p2 p3 p4 = some r) : CT l yX8_fight (wu yX8_fight cX8_fight 7 (some .int)) 1 D cy [.ref (ad 0), .int p0, .int p1, .int p2, .int p3, .int p4] (wC ad cy S ++ X) (some (.int r.1)) (wC ad cy r.2 ++ X) := by
  refine CT.mk (cc := cX8_fight) (maxL := 7) (ret := (some .int)) (own := RX8) (by decide) rfl rfl (Nat.le_of_ble_eq_true rfl) ?_
  intro p e s m args below meth c ls A Q hA hQ hC hr hk hW hl
  have hx := hC.1
  have hb := hC.2.1
  have hown := hC.2.2.2.1
  have hts := hC.2.2.2.2
  have hl : lv_has ls 7 [(0, .ref (ad 0)), (1, .int p0), (2, .int p1), (3, .int p2), (4, .int p3), (5, .int p4)] := hl
  have f28 := hts _ (wu_in w_2_0)
  have i8 := (fun w h => wu_in (inc_8 w h) : ∀ w ∈ u_ws RX8 TX8 12, w ∈ (wu yX8_fight cX8_fight 7 (some .int)))
  have f260 := hts _ (wu_in w_42_22)
  have i4 := (fun w h => wu_in (inc_4 w h) : ∀ w ∈ u_ws RX4 TX4 16, w ∈ (wu yX8_fight cX8_fight 7 (some .int)))
  have f263 := hts _ (wu_in w_42_23)
  have f73 := hts _ (wu_in w_2_20)
  unfold m_X8_fightN at h
  refine lv_aload_n hx hb dX8_fight_0 rfl (lv_at hl 0 rfl) ?_
  refine wd_get hC i8 hW 0 wC_c0 rfl 2 (Nat.le_of_ble_eq_true rfl) f28 rfl rfl dX8_fight_1 ?_
  refine wd_get hC i4 hW 25 wC_c25 rfl 3 (Nat.le_of_ble_eq_true rfl) f260 rfl rfl dX8_fight_4 ?_
  refine lv_iconst (v := 2) hx hb dX8_fight_7 (by decide) ?_
  refine lv_icmp_ne (tgt := 22) hx hb dX8_fight_8 (by decide) (fun c1 => ?_) (fun c1 => ?_)
  · replace h := ite_f h c1
    refine lv_bipush (v := (-2)) hx hb dX8_fight_22 (by decide) ?_
    obtain rfl := Option.some.inj h
    exact wd_iret hA hQ hC hr hk hW dX8_fight_24
  · replace h := ite_t h c1
    refine lv_aload_n hx hb dX8_fight_11 rfl (lv_at hl 0 rfl) ?_
    refine wd_get hC i8 hW 0 wC_c0 rfl 2 (Nat.le_of_ble_eq_true rfl) f28 rfl rfl dX8_fight_12 ?_
    refine wd_get hC i4 hW 25 wC_c25 rfl 4 (Nat.le_of_ble_eq_true rfl) f263 rfl rfl dX8_fight_15 ?_
    refine lv_iconst (v := 2) hx hb dX8_fight_18 (by decide) ?_
    refine lv_icmp_eq (tgt := 25) hx hb dX8_fight_19 (by decide) (fun c2 => ?_) (fun c2 => ?_)
    · replace h := ite_t h c2
      refine lv_aload_n hx hb dX8_fight_25 rfl (lv_at hl 0 rfl) ?_
      refine wd_get hC i8 hW 0 wC_c0 rfl 2 (Nat.le_of_ble_eq_true rfl) f28 rfl rfl dX8_fight_26 ?_
      refine lv_iload_n hx hb dX8_fight_29 rfl (lv_at hl 1 rfl) ?_
      obtain ⟨r3, hr4, h⟩ := bd_of h
      refine wd_callV1 (As := [.int p0]) hC hW 25 wC_c25 rfl (c_X4_waitsM l D cy ad X S p0 r3 hr4) (cwV 1 hts (gu_V w_16_23 w_16_20 w_16_21 w_16_22 w_1_23) rfl rfl rfl hdX4_waits ⟨Nat.le_of_ble_eq_true rfl, Nat.le_of_ble_eq_true rfl⟩) rfl hl.1 rfl (Nat.le_of_ble_eq_true rfl) ⟨Nat.zero_le _, Nat.zero_le _⟩ dX8_fight_30 (fun H locs hW => ?_)
      refine lv_if_eq (tgt := 47) hx hb dX8_fight_33 (by decide) (fun c5 => ?_) (fun c5 => ?_)
      · replace h := ite_t h c5
        refine lv_bipush (v := (-3)) hx hb dX8_fight_47 (by decide) ?_
        obtain rfl := Option.some.inj h
        exact wd_iret hA hQ hC hr hk hW dX8_fight_49
      · replace h := ite_f h c5
        refine lv_aload_n hx hb dX8_fight_36 rfl (lv_at hl 0 rfl) ?_
        refine wd_get hC i8 hW 0 wC_c0 rfl 2 (Nat.le_of_ble_eq_true rfl) f28 rfl rfl dX8_fight_37 ?_
        refine lv_iload_n hx hb dX8_fight_40 rfl (lv_at hl 2 rfl) ?_
        obtain ⟨r6, hr7, h⟩ := bd_of h
        refine wd_callV1 (As := [.int p1]) hC hW 25 wC_c25 rfl (c_X4_waitsM l D cy ad X S p1 r6 hr7) (cwV 1 hts (gu_V w_16_23 w_16_20 w_16_21 w_16_22 w_1_23) rfl rfl rfl hdX4_waits ⟨Nat.le_of_ble_eq_true rfl, Nat.le_of_ble_eq_true rfl⟩) rfl hl.1 rfl (Nat.le_of_ble_eq_true rfl) ⟨Nat.zero_le _, Nat.zero_le _⟩ dX8_fight_41 (fun H locs hW => ?_)
        refine lv_if_ne (tgt := 50) hx hb dX8_fight_44 (by decide) (fun c8 => ?_) (fun c8 => ?_)
        · replace h := ite_f h c8
          refine lv_aload_n hx hb dX8_fight_50 rfl (lv_at hl 0 rfl) ?_
          obtain ⟨hz9, h⟩ := ckz_of h
          refine wd_get (v := .null) hC i8 hW 0 wC_c0 rfl 11 (Nat.le_of_ble_eq_true rfl) f73 rfl (congrArg some (by rw [hz9]; rfl)) dX8_fight_51 ?_
          refine lv_ifnonnullN hx hb dX8_fight_54 ?_
          refine lv_aload_n hx hb dX8_fight_57 rfl (lv_at hl 0 rfl) ?_
          cases h
        · replace h := ite_t h c8
          refine lv_bipush (v := (-3)) hx hb dX8_fight_47 (by decide) ?_
          obtain rfl := Option.some.inj h
          exact wd_iret hA hQ hC hr hk hW dX8_fight_49
    · replace h := ite_f h c2
      refine lv_bipush (v := (-2)) hx hb dX8_fight_22 (by decide) ?_
      obtain rfl := Option.some.inj h
      exact wd_iret hA hQ hC hr hk hW dX8_fight_24
def m_X8_duelN (S : St) (p0 : Int32) (p1 : Int32) : Option (Int32 × St) :=
  (m_X8_isLifter S p0).bind (fun r1 => if r1 = 0 then (some ((-1), S)) else ((m_X8_isLifter S p1).bind (fun r4 => if r4 = 0 then (some ((-1), S)) else (if p0 = p1 then (some ((-1), S)) else (ck p0 6 (ck p1 6 ((m_X8_fightN S p0 p1 (S.2.1 28 p0.toNatClampNeg) (S.2.1 28 p1.toNatClampNeg) 3).bind (fun r10 => some (r10.1, r10.2)))))))))
set_option maxHeartbeats 4000000 in
set_option maxRecDepth 100000 in
theorem c_X8_duelN (l : Launch) (D : va_G) (cy : Nat → ClassId) (ad : Nat → Nat) (X : va_W) (S : St) (p0 : Int32) (p1 : Int32) (r : (Int32 × St)) (h : m_X8_duelN S p0 p1 = some r) : CT l yX8_duel (wu yX8_duel cX8_duel 3 (some .int)) 2 D cy [.ref (ad 0), .int p0, .int p1] (wC ad cy S ++ X) (some (.int r.1)) (wC ad cy r.2 ++ X) := by
  refine CT.mk (cc := cX8_duel) (maxL := 3) (ret := (some .int)) (own := RX8) (by decide) rfl rfl (Nat.le_of_ble_eq_true rfl) ?_
  intro p e s m args below meth c ls A Q hA hQ hC hr hk hW hl
  have hx := hC.1
  have hb := hC.2.1
  have hown := hC.2.2.2.1
  have hts := hC.2.2.2.2
  have hl : lv_has ls 3 [(0, .ref (ad 0)), (1, .int p0), (2, .int p1)] := hl
  have f28 := hts _ (wu_in w_2_0)
  have i8 := (fun w h => wu_in (inc_8 w h) : ∀ w ∈ u_ws RX8 TX8 12, w ∈ (wu yX8_duel cX8_duel 3 (some .int)))
  have f137 := hts _ (wu_in w_16_13)
  have i4 := (fun w h => wu_in (inc_4 w h) : ∀ w ∈ u_ws RX4 TX4 16, w ∈ (wu yX8_duel cX8_duel 3 (some .int)))
  unfold m_X8_duelN at h
  refine lv_aload_n hx hb dX8_duel_0 rfl (lv_at hl 0 rfl) ?_
  refine lv_iload_n hx hb dX8_duel_1 rfl (lv_at hl 1 rfl) ?_
  obtain ⟨r1, hr2, h⟩ := bd_of h
  refine wd_callV1 (As := [.int p0]) hC hW 0 wC_c0 rfl (c_X8_isLifter l D cy ad X S p0 r1 hr2) (cwV 1 hts (gu_V w_13_9 w_13_6 w_13_7 w_13_8 w_1_2) rfl rfl rfl hdX8_isLifter ⟨Nat.le_of_ble_eq_true rfl, Nat.le_of_ble_eq_true rfl⟩) rfl hl.1 rfl (Nat.le_of_ble_eq_true rfl) ⟨Nat.zero_le _, Nat.zero_le _⟩ dX8_duel_2 (fun H locs hW => ?_)
  refine lv_if_eq (tgt := 21) hx hb dX8_duel_5 (by decide) (fun c3 => ?_) (fun c3 => ?_)
  · replace h := ite_t h c3
    refine lv_iconst (v := (-1)) hx hb dX8_duel_21 (by decide) ?_
    obtain rfl := Option.some.inj h
    exact wd_iret hA hQ hC hr hk hW dX8_duel_22
  · replace h := ite_f h c3
    refine lv_aload_n hx hb dX8_duel_8 rfl (lv_at hl 0 rfl) ?_
    refine lv_iload_n hx hb dX8_duel_9 rfl (lv_at hl 2 rfl) ?_
    obtain ⟨r4, hr5, h⟩ := bd_of h
    refine wd_callV1 (As := [.int p1]) hC hW 0 wC_c0 rfl (c_X8_isLifter l D cy ad X S p1 r4 hr5) (cwV 1 hts (gu_V w_13_9 w_13_6 w_13_7 w_13_8 w_1_2) rfl rfl rfl hdX8_isLifter ⟨Nat.le_of_ble_eq_true rfl, Nat.le_of_ble_eq_true rfl⟩) rfl hl.1 rfl (Nat.le_of_ble_eq_true rfl) ⟨Nat.zero_le _, Nat.zero_le _⟩ dX8_duel_10 (fun H locs hW => ?_)
    refine lv_if_eq (tgt := 21) hx hb dX8_duel_13 (by decide) (fun c6 => ?_) (fun c6 => ?_)
    · replace h := ite_t h c6
      refine lv_iconst (v := (-1)) hx hb dX8_duel_21 (by decide) ?_
      obtain rfl := Option.some.inj h
      exact wd_iret hA hQ hC hr hk hW dX8_duel_22
    · replace h := ite_f h c6
      refine lv_iload_n hx hb dX8_duel_16 rfl (lv_at hl 1 rfl) ?_
      refine lv_iload_n hx hb dX8_duel_17 rfl (lv_at hl 2 rfl) ?_
      refine lv_icmp_ne (tgt := 23) hx hb dX8_duel_18 (by decide) (fun c7 => ?_) (fun c7 => ?_)
      · replace h := ite_f h c7
        refine lv_aload_n hx hb dX8_duel_23 rfl (lv_at hl 0 rfl) ?_
        refine lv_iload_n hx hb dX8_duel_24 rfl (lv_at hl 1 rfl) ?_
        refine lv_iload_n hx hb dX8_duel_25 rfl (lv_at hl 2 rfl) ?_
        refine lv_aload_n hx hb dX8_duel_26 rfl (lv_at hl 0 rfl) ?_
        refine wd_get hC i8 hW 0 wC_c0 rfl 2 (Nat.le_of_ble_eq_true rfl) f28 rfl rfl dX8_duel_27 ?_
        refine wd_get hC i4 hW 25 wC_c25 rfl 8 (Nat.le_of_ble_eq_true rfl) f137 rfl rfl dX8_duel_30 ?_
        refine lv_iload_n hx hb dX8_duel_33 rfl (lv_at hl 1 rfl) ?_
        obtain ⟨hi8, h⟩ := ck_of h
        refine wd_iald hC hW 28 wC_c28 hi8 dX8_duel_34 ?_
        refine lv_aload_n hx hb dX8_duel_35 rfl (lv_at hl 0 rfl) ?_
        refine wd_get hC i8 hW 0 wC_c0 rfl 2 (Nat.le_of_ble_eq_true rfl) f28 rfl rfl dX8_duel_36 ?_
        refine wd_get hC i4 hW 25 wC_c25 rfl 8 (Nat.le_of_ble_eq_true rfl) f137 rfl rfl dX8_duel_39 ?_
        refine lv_iload_n hx hb dX8_duel_42 rfl (lv_at hl 2 rfl) ?_
        obtain ⟨hi9, h⟩ := ck_of h
        refine wd_iald hC hW 28 wC_c28 hi9 dX8_duel_43 ?_
        refine lv_iconst (v := 3) hx hb dX8_duel_44 (by decide) ?_
        obtain ⟨r10, hr11, h⟩ := bd_of h
        refine wd_callV1 (As := [.int p0, .int p1, .int (S.2.1 28 p0.toNatClampNeg), .int (S.2.1 28 p1.toNatClampNeg), .int 3]) hC hW 0 wC_c0 rfl (c_X8_fightN l D cy ad X S p0 p1 (S.2.1 28 p0.toNatClampNeg) (S.2.1 28 p1.toNatClampNeg) 3 r10 hr11) (cwV 5 hts (gu_V w_42_21 w_42_18 w_42_19 w_42_20 w_1_2) rfl rfl rfl hdX8_fight ⟨Nat.le_of_ble_eq_true rfl, Nat.le_of_ble_eq_true rfl⟩) rfl hl.1 rfl (Nat.le_of_ble_eq_true rfl) ⟨Nat.zero_le _, Nat.zero_le _⟩ dX8_duel_45 (fun H locs hW => ?_)
        obtain rfl := Option.some.inj h
        exact wd_iret hA hQ hC hr hk hW dX8_duel_48
      · replace h := ite_t h c7
        refine lv_iconst (v := (-1)) hx hb dX8_duel_21 (by decide) ?_
        obtain rfl := Option.some.inj h
        exact wd_iret hA hQ hC hr hk hW dX8_duel_22
def m_X8_bluffN (S : St) (p0 : Int32) (p1 : Int32) (p2 : Int32) (p3 : Int32) : Option (Int32 × St) :=
  (m_X8_isLifter S p0).bind (fun r1 => if r1 = 0 then (some ((-1), S)) else ((m_X8_isLifter S p1).bind (fun r4 => if r4 = 0 then (some ((-1), S)) else (if p0 = p1 then (some ((-1), S)) else (if p2 < 0 then (some ((-1), S)) else (if 2 < p2 then (some ((-1), S)) else (if p3 < 0 then (some ((-1), S)) else (if p3 ≤ 2 then ((m_X8_fightN S p0 p1 p2 p3 2).bind (fun r12 => some (r12.1, r12.2))) else (some ((-1), S))))))))))
set_option maxHeartbeats 4000000 in
set_option maxRecDepth 100000 in
theorem c_X8_bluffN (l : Launch) (D : va_G) (cy : Nat → ClassId) (ad : Nat → Nat) (X : va_W) (S : St) (p0 : Int32) (p1 : Int32) (p2 : Int32) (p3 : Int32) (r : (Int32 × St)) (h : m_X8_bluffN S p0 p1 p2 p3 = some r) : CT l yX8_bluff (wu yX8_bluff cX8_bluff 5 (some .int)) 2 D cy [.ref (ad 0), .int p0, .int p1, .int p2, .int p3] (wC ad cy S ++ X) (some (.int r.1)) (wC ad cy r.2 ++ X) := by
  refine CT.mk (cc := cX8_bluff) (maxL := 5) (ret := (some .int)) (own := RX8) (by decide) rfl rfl (Nat.le_of_ble_eq_true rfl) ?_
  intro p e s m args below meth c ls A Q hA hQ hC hr hk hW hl
  have hx := hC.1
  have hb := hC.2.1
  have hown := hC.2.2.2.1
  have hts := hC.2.2.2.2
  have hl : lv_has ls 5 [(0, .ref (ad 0)), (1, .int p0), (2, .int p1), (3, .int p2), (4, .int p3)] := hl
  unfold m_X8_bluffN at h
  refine lv_aload_n hx hb dX8_bluff_0 rfl (lv_at hl 0 rfl) ?_
  refine lv_iload_n hx hb dX8_bluff_1 rfl (lv_at hl 1 rfl) ?_
  obtain ⟨r1, hr2, h⟩ := bd_of h
  refine wd_callV1 (As := [.int p0]) hC hW 0 wC_c0 rfl (c_X8_isLifter l D cy ad X S p0 r1 hr2) (cwV 1 hts (gu_V w_13_9 w_13_6 w_13_7 w_13_8 w_1_2) rfl rfl rfl hdX8_isLifter ⟨Nat.le_of_ble_eq_true rfl, Nat.le_of_ble_eq_true rfl⟩) rfl hl.1 rfl (Nat.le_of_ble_eq_true rfl) ⟨Nat.zero_le _, Nat.zero_le _⟩ dX8_bluff_2 (fun H locs hW => ?_)
  refine lv_if_eq (tgt := 41) hx hb dX8_bluff_5 (by decide) (fun c3 => ?_) (fun c3 => ?_)
  · replace h := ite_t h c3
    refine lv_iconst (v := (-1)) hx hb dX8_bluff_41 (by decide) ?_
    obtain rfl := Option.some.inj h
    exact wd_iret hA hQ hC hr hk hW dX8_bluff_42
  · replace h := ite_f h c3
    refine lv_aload_n hx hb dX8_bluff_8 rfl (lv_at hl 0 rfl) ?_
    refine lv_iload_n hx hb dX8_bluff_9 rfl (lv_at hl 2 rfl) ?_
    obtain ⟨r4, hr5, h⟩ := bd_of h
    refine wd_callV1 (As := [.int p1]) hC hW 0 wC_c0 rfl (c_X8_isLifter l D cy ad X S p1 r4 hr5) (cwV 1 hts (gu_V w_13_9 w_13_6 w_13_7 w_13_8 w_1_2) rfl rfl rfl hdX8_isLifter ⟨Nat.le_of_ble_eq_true rfl, Nat.le_of_ble_eq_true rfl⟩) rfl hl.1 rfl (Nat.le_of_ble_eq_true rfl) ⟨Nat.zero_le _, Nat.zero_le _⟩ dX8_bluff_10 (fun H locs hW => ?_)
    refine lv_if_eq (tgt := 41) hx hb dX8_bluff_13 (by decide) (fun c6 => ?_) (fun c6 => ?_)
    · replace h := ite_t h c6
      refine lv_iconst (v := (-1)) hx hb dX8_bluff_41 (by decide) ?_
      obtain rfl := Option.some.inj h
      exact wd_iret hA hQ hC hr hk hW dX8_bluff_42
    · replace h := ite_f h c6
      refine lv_iload_n hx hb dX8_bluff_16 rfl (lv_at hl 1 rfl) ?_
      refine lv_iload_n hx hb dX8_bluff_17 rfl (lv_at hl 2 rfl) ?_
      refine lv_icmp_eq (tgt := 41) hx hb dX8_bluff_18 (by decide) (fun c7 => ?_) (fun c7 => ?_)
      · replace h := ite_t h c7
        refine lv_iconst (v := (-1)) hx hb dX8_bluff_41 (by decide) ?_
        obtain rfl := Option.some.inj h
        exact wd_iret hA hQ hC hr hk hW dX8_bluff_42
      · replace h := ite_f h c7
        refine lv_iload_n hx hb dX8_bluff_21 rfl (lv_at hl 3 rfl) ?_
        refine lv_if_lt (tgt := 41) hx hb dX8_bluff_22 (by decide) (fun c8 => ?_) (fun c8 => ?_)
        · replace h := ite_t h c8
          refine lv_iconst (v := (-1)) hx hb dX8_bluff_41 (by decide) ?_
          obtain rfl := Option.some.inj h
          exact wd_iret hA hQ hC hr hk hW dX8_bluff_42
        · replace h := ite_f h c8
          refine lv_iload_n hx hb dX8_bluff_25 rfl (lv_at hl 3 rfl) ?_
          refine lv_iconst (v := 2) hx hb dX8_bluff_26 (by decide) ?_
          refine lv_icmp_gt (tgt := 41) hx hb dX8_bluff_27 (by decide) (fun c9 => ?_) (fun c9 => ?_)
          · replace h := ite_t h c9
            refine lv_iconst (v := (-1)) hx hb dX8_bluff_41 (by decide) ?_
            obtain rfl := Option.some.inj h
            exact wd_iret hA hQ hC hr hk hW dX8_bluff_42
          · replace h := ite_f h c9
            refine lv_iload hx hb dX8_bluff_30 (lv_at hl 4 rfl) ?_
            refine lv_if_lt (tgt := 41) hx hb dX8_bluff_32 (by decide) (fun c10 => ?_) (fun c10 => ?_)
            · replace h := ite_t h c10
              refine lv_iconst (v := (-1)) hx hb dX8_bluff_41 (by decide) ?_
              obtain rfl := Option.some.inj h
              exact wd_iret hA hQ hC hr hk hW dX8_bluff_42
            · replace h := ite_f h c10
              refine lv_iload hx hb dX8_bluff_35 (lv_at hl 4 rfl) ?_
              refine lv_iconst (v := 2) hx hb dX8_bluff_37 (by decide) ?_
              refine lv_icmp_le (tgt := 43) hx hb dX8_bluff_38 (by decide) (fun c11 => ?_) (fun c11 => ?_)
              · replace h := ite_t h c11
                refine lv_aload_n hx hb dX8_bluff_43 rfl (lv_at hl 0 rfl) ?_
                refine lv_iload_n hx hb dX8_bluff_44 rfl (lv_at hl 1 rfl) ?_
                refine lv_iload_n hx hb dX8_bluff_45 rfl (lv_at hl 2 rfl) ?_
                refine lv_iload_n hx hb dX8_bluff_46 rfl (lv_at hl 3 rfl) ?_
                refine lv_iload hx hb dX8_bluff_47 (lv_at hl 4 rfl) ?_
                refine lv_iconst (v := 2) hx hb dX8_bluff_49 (by decide) ?_
                obtain ⟨r12, hr13, h⟩ := bd_of h
                refine wd_callV1 (As := [.int p0, .int p1, .int p2, .int p3, .int 2]) hC hW 0 wC_c0 rfl (c_X8_fightN l D cy ad X S p0 p1 p2 p3 2 r12 hr13) (cwV 5 hts (gu_V w_42_21 w_42_18 w_42_19 w_42_20 w_1_2) rfl rfl rfl hdX8_fight ⟨Nat.le_of_ble_eq_true rfl, Nat.le_of_ble_eq_true rfl⟩) rfl hl.1 rfl (Nat.le_of_ble_eq_true rfl) ⟨Nat.zero_le _, Nat.zero_le _⟩ dX8_bluff_50 (fun H locs hW => ?_)
                obtain rfl := Option.some.inj h
                exact wd_iret hA hQ hC hr hk hW dX8_bluff_53
              · replace h := ite_f h c11
                refine lv_iconst (v := (-1)) hx hb dX8_bluff_41 (by decide) ?_
                obtain rfl := Option.some.inj h
                exact wd_iret hA hQ hC hr hk hW dX8_bluff_42
def m_X8_rowN (S : St) (p0 : Int32) : Option (Int64 × St) :=
  if p0 < 0 then none else (if (S.1 0) ≤ p0 then none else (if p0 < 9 then (ck p0 9 (some (S.2.2.1 58 p0.toNatClampNeg, S))) else none))
set_option maxHeartbeats 4000000 in
set_option maxRecDepth 100000 in
theorem c_X8_rowN (l : Launch) (D : va_G) (cy : Nat → ClassId) (ad : Nat → Nat) (X : va_W) (S : St) (p0 : Int32) (r : (Int64 × St)) (h : m_X8_rowN S p0 = some r) : CT l yX8_row (wu yX8_row cX8_row 2 (some .long)) 0 D cy [.ref (ad 0), .int p0] (wC ad cy S ++ X) (some (.long r.1)) (wC ad cy r.2 ++ X) := by
  refine CT.mk (cc := cX8_row) (maxL := 2) (ret := (some .long)) (own := RX8) (by decide) rfl rfl (Nat.le_of_ble_eq_true rfl) ?_
  intro p e s m args below meth c ls A Q hA hQ hC hr hk hW hl
  have hx := hC.1
  have hb := hC.2.1
  have hown := hC.2.2.2.1
  have hts := hC.2.2.2.2
  have hl : lv_has ls 2 [(0, .ref (ad 0)), (1, .int p0)] := hl
  have f65 := hts _ (wu_in w_2_18)
  have i8 := (fun w h => wu_in (inc_8 w h) : ∀ w ∈ u_ws RX8 TX8 12, w ∈ (wu yX8_row cX8_row 2 (some .long)))
  have f61 := hts _ (wu_in w_2_17)
  unfold m_X8_rowN at h
  refine lv_iload_n hx hb dX8_row_0 rfl (lv_at hl 1 rfl) ?_
  refine lv_if_lt (tgt := 21) hx hb dX8_row_1 (by decide) (fun c1 => ?_) (fun c1 => ?_)
  · replace h := ite_t h c1
    cases h
  · replace h := ite_f h c1
    refine lv_iload_n hx hb dX8_row_4 rfl (lv_at hl 1 rfl) ?_
    refine lv_aload_n hx hb dX8_row_5 rfl (lv_at hl 0 rfl) ?_
    refine wd_get hC i8 hW 0 wC_c0 rfl 9 (Nat.le_of_ble_eq_true rfl) f65 rfl rfl dX8_row_6 ?_
    refine lv_icmp_ge (tgt := 21) hx hb dX8_row_9 (by decide) (fun c2 => ?_) (fun c2 => ?_)
    · replace h := ite_t h c2
      cases h
    · replace h := ite_f h c2
      refine lv_iload_n hx hb dX8_row_12 rfl (lv_at hl 1 rfl) ?_
      refine lv_aload_n hx hb dX8_row_13 rfl (lv_at hl 0 rfl) ?_
      refine wd_get hC i8 hW 0 wC_c0 rfl 8 (Nat.le_of_ble_eq_true rfl) f61 rfl rfl dX8_row_14 ?_
      refine wd_alen hC hW 58 1 wC_c58 rfl (v := 9) rfl dX8_row_17 ?_
      refine lv_icmp_lt (tgt := 29) hx hb dX8_row_18 (by decide) (fun c3 => ?_) (fun c3 => ?_)
      · replace h := ite_t h c3
        refine lv_aload_n hx hb dX8_row_29 rfl (lv_at hl 0 rfl) ?_
        refine wd_get hC i8 hW 0 wC_c0 rfl 8 (Nat.le_of_ble_eq_true rfl) f61 rfl rfl dX8_row_30 ?_
        refine lv_iload_n hx hb dX8_row_33 rfl (lv_at hl 1 rfl) ?_
        obtain ⟨hi4, h⟩ := ck_of h
        refine wd_lald hC hW 58 wC_c58 hi4 dX8_row_34 ?_
        obtain rfl := Option.some.inj h
        exact wd_lret hA hQ hC hr hk hW dX8_row_35
      · replace h := ite_f h c3
        cases h
