theorem hdX9_aimsBeat : yX9_aimsBeat.cls = RX9 ∧ yX9_aimsBeat.cls ≠ "java/lang/invoke/MethodHandle" ∧ yX9_aimsBeat.cls ≠ "java/lang/invoke/VarHandle" ∧ (parseMethodDescriptor yX9_aimsBeat.desc).map (fun d => d.parameters.length) = some 2 := by decide +kernel
theorem hdX9_aimsMass : yX9_aimsMass.cls = RX9 ∧ yX9_aimsMass.cls ≠ "java/lang/invoke/MethodHandle" ∧ yX9_aimsMass.cls ≠ "java/lang/invoke/VarHandle" ∧ (parseMethodDescriptor yX9_aimsMass.desc).map (fun d => d.parameters.length) = some 0 := by decide +kernel
theorem hdX9_aimsReach : yX9_aimsReach.cls = RX9 ∧ yX9_aimsReach.cls ≠ "java/lang/invoke/MethodHandle" ∧ yX9_aimsReach.cls ≠ "java/lang/invoke/VarHandle" ∧ (parseMethodDescriptor yX9_aimsReach.desc).map (fun d => d.parameters.length) = some 1 := by decide +kernel
theorem hdX9_aimsWin : yX9_aimsWin.cls = RX9 ∧ yX9_aimsWin.cls ≠ "java/lang/invoke/MethodHandle" ∧ yX9_aimsWin.cls ≠ "java/lang/invoke/VarHandle" ∧ (parseMethodDescriptor yX9_aimsWin.desc).map (fun d => d.parameters.length) = some 1 := by decide +kernel
theorem hdX9_beatBy : yX9_beatBy.cls = RX9 ∧ yX9_beatBy.cls ≠ "java/lang/invoke/MethodHandle" ∧ yX9_beatBy.cls ≠ "java/lang/invoke/VarHandle" ∧ (parseMethodDescriptor yX9_beatBy.desc).map (fun d => d.parameters.length) = some 3 := by decide +kernel
theorem hdX9_canBe : yX9_canBe.cls ≠ "java/lang/invoke/MethodHandle" ∧ yX9_canBe.cls ≠ "java/lang/invoke/VarHandle" ∧ (parseMethodDescriptor yX9_canBe.desc).map (fun d => d.parameters.length) = some 4 := by decide +kernel
theorem hdX9_cell : yX9_cell.cls ≠ "java/lang/invoke/MethodHandle" ∧ yX9_cell.cls ≠ "java/lang/invoke/VarHandle" ∧ (parseMethodDescriptor yX9_cell.desc).map (fun d => d.parameters.length) = some 4 := by decide +kernel
theorem hdX9_chanceOf : yX9_chanceOf.cls = RX9 ∧ yX9_chanceOf.cls ≠ "java/lang/invoke/MethodHandle" ∧ yX9_chanceOf.cls ≠ "java/lang/invoke/VarHandle" ∧ (parseMethodDescriptor yX9_chanceOf.desc).map (fun d => d.parameters.length) = some 2 := by decide +kernel
theorem hdX9_draw : yX9_draw.cls = RX9 ∧ yX9_draw.cls ≠ "java/lang/invoke/MethodHandle" ∧ yX9_draw.cls ≠ "java/lang/invoke/VarHandle" ∧ (parseMethodDescriptor yX9_draw.desc).map (fun d => d.parameters.length) = some 1 := by decide +kernel
theorem hdX9_duelAt : yX9_duelAt.cls = RX9 ∧ yX9_duelAt.cls ≠ "java/lang/invoke/MethodHandle" ∧ yX9_duelAt.cls ≠ "java/lang/invoke/VarHandle" ∧ (parseMethodDescriptor yX9_duelAt.desc).map (fun d => d.parameters.length) = some 2 := by decide +kernel
theorem hdX9_duelBest : yX9_duelBest.cls = RX9 ∧ yX9_duelBest.cls ≠ "java/lang/invoke/MethodHandle" ∧ yX9_duelBest.cls ≠ "java/lang/invoke/VarHandle" ∧ (parseMethodDescriptor yX9_duelBest.desc).map (fun d => d.parameters.length) = some 3 := by decide +kernel
theorem hdX9_duelCell : yX9_duelCell.cls ≠ "java/lang/invoke/MethodHandle" ∧ yX9_duelCell.cls ≠ "java/lang/invoke/VarHandle" ∧ (parseMethodDescriptor yX9_duelCell.desc).map (fun d => d.parameters.length) = some 4 := by decide +kernel
theorem hdX9_duelChoosesLast : yX9_duelChoosesLast.cls = RX9 ∧ yX9_duelChoosesLast.cls ≠ "java/lang/invoke/MethodHandle" ∧ yX9_duelChoosesLast.cls ≠ "java/lang/invoke/VarHandle" ∧ (parseMethodDescriptor yX9_duelChoosesLast.desc).map (fun d => d.parameters.length) = some 4 := by decide +kernel
theorem hdX9_duelEnds : yX9_duelEnds.cls = RX9 ∧ yX9_duelEnds.cls ≠ "java/lang/invoke/MethodHandle" ∧ yX9_duelEnds.cls ≠ "java/lang/invoke/VarHandle" ∧ (parseMethodDescriptor yX9_duelEnds.desc).map (fun d => d.parameters.length) = some 2 := by decide +kernel
theorem hdX9_duelLast : yX9_duelLast.cls = RX9 ∧ yX9_duelLast.cls ≠ "java/lang/invoke/MethodHandle" ∧ yX9_duelLast.cls ≠ "java/lang/invoke/VarHandle" ∧ (parseMethodDescriptor yX9_duelLast.desc).map (fun d => d.parameters.length) = some 3 := by decide +kernel
theorem hdX9_duelLays : yX9_duelLays.cls = RX9 ∧ yX9_duelLays.cls ≠ "java/lang/invoke/MethodHandle" ∧ yX9_duelLays.cls ≠ "java/lang/invoke/VarHandle" ∧ (parseMethodDescriptor yX9_duelLays.desc).map (fun d => d.parameters.length) = some 4 := by decide +kernel
theorem hdX9_duelTry : yX9_duelTry.cls = RX9 ∧ yX9_duelTry.cls ≠ "java/lang/invoke/MethodHandle" ∧ yX9_duelTry.cls ≠ "java/lang/invoke/VarHandle" ∧ (parseMethodDescriptor yX9_duelTry.desc).map (fun d => d.parameters.length) = some 4 := by decide +kernel
theorem hdX9_ends : yX9_ends.cls = RX9 ∧ yX9_ends.cls ≠ "java/lang/invoke/MethodHandle" ∧ yX9_ends.cls ≠ "java/lang/invoke/VarHandle" ∧ (parseMethodDescriptor yX9_ends.desc).map (fun d => d.parameters.length) = some 3 := by decide +kernel
theorem hdX9_entersDuel : yX9_entersDuel.cls = RX9 ∧ yX9_entersDuel.cls ≠ "java/lang/invoke/MethodHandle" ∧ yX9_entersDuel.cls ≠ "java/lang/invoke/VarHandle" ∧ (parseMethodDescriptor yX9_entersDuel.desc).map (fun d => d.parameters.length) = some 2 := by decide +kernel
theorem hdX9_expected : yX9_expected.cls ≠ "java/lang/invoke/MethodHandle" ∧ yX9_expected.cls ≠ "java/lang/invoke/VarHandle" ∧ (parseMethodDescriptor yX9_expected.desc).map (fun d => d.parameters.length) = some 3 := by decide +kernel
theorem hdX9_failsToo : yX9_failsToo.cls ≠ "java/lang/invoke/MethodHandle" ∧ yX9_failsToo.cls ≠ "java/lang/invoke/VarHandle" ∧ (parseMethodDescriptor yX9_failsToo.desc).map (fun d => d.parameters.length) = some 2 := by decide +kernel
theorem hdX9_follows : yX9_follows.cls = RX9 ∧ yX9_follows.cls ≠ "java/lang/invoke/MethodHandle" ∧ yX9_follows.cls ≠ "java/lang/invoke/VarHandle" ∧ (parseMethodDescriptor yX9_follows.desc).map (fun d => d.parameters.length) = some 8 := by decide +kernel
theorem hdX9_freeNow : yX9_freeNow.cls = RX9 ∧ yX9_freeNow.cls ≠ "java/lang/invoke/MethodHandle" ∧ yX9_freeNow.cls ≠ "java/lang/invoke/VarHandle" ∧ (parseMethodDescriptor yX9_freeNow.desc).map (fun d => d.parameters.length) = some 1 := by decide +kernel
theorem hdX9_isBetter : yX9_isBetter.cls ≠ "java/lang/invoke/MethodHandle" ∧ yX9_isBetter.cls ≠ "java/lang/invoke/VarHandle" ∧ (parseMethodDescriptor yX9_isBetter.desc).map (fun d => d.parameters.length) = some 3 := by decide +kernel
theorem hdX9_isOneCalled : yX9_isOneCalled.cls = RX9 ∧ yX9_isOneCalled.cls ≠ "java/lang/invoke/MethodHandle" ∧ yX9_isOneCalled.cls ≠ "java/lang/invoke/VarHandle" ∧ (parseMethodDescriptor yX9_isOneCalled.desc).map (fun d => d.parameters.length) = some 2 := by decide +kernel
theorem hdX9_isTotal : yX9_isTotal.cls ≠ "java/lang/invoke/MethodHandle" ∧ yX9_isTotal.cls ≠ "java/lang/invoke/VarHandle" ∧ (parseMethodDescriptor yX9_isTotal.desc).map (fun d => d.parameters.length) = some 1 := by decide +kernel
theorem hdX9_laysBehind : yX9_laysBehind.cls = RX9 ∧ yX9_laysBehind.cls ≠ "java/lang/invoke/MethodHandle" ∧ yX9_laysBehind.cls ≠ "java/lang/invoke/VarHandle" ∧ (parseMethodDescriptor yX9_laysBehind.desc).map (fun d => d.parameters.length) = some 2 := by decide +kernel
theorem hdX9_laysChances : yX9_laysChances.cls = RX9 ∧ yX9_laysChances.cls ≠ "java/lang/invoke/MethodHandle" ∧ yX9_laysChances.cls ≠ "java/lang/invoke/VarHandle" ∧ (parseMethodDescriptor yX9_laysChances.desc).map (fun d => d.parameters.length) = some 1 := by decide +kernel
theorem hdX9_laysRounds : yX9_laysRounds.cls = RX9 ∧ yX9_laysRounds.cls ≠ "java/lang/invoke/MethodHandle" ∧ yX9_laysRounds.cls ≠ "java/lang/invoke/VarHandle" ∧ (parseMethodDescriptor yX9_laysRounds.desc).map (fun d => d.parameters.length) = some 4 := by decide +kernel
theorem hdX9_nextLoadOf : yX9_nextLoadOf.cls = RX9 ∧ yX9_nextLoadOf.cls ≠ "java/lang/invoke/MethodHandle" ∧ yX9_nextLoadOf.cls ≠ "java/lang/invoke/VarHandle" ∧ (parseMethodDescriptor yX9_nextLoadOf.desc).map (fun d => d.parameters.length) = some 3 := by decide +kernel
theorem hdX9_outs : yX9_outs.cls = RX9 ∧ yX9_outs.cls ≠ "java/lang/invoke/MethodHandle" ∧ yX9_outs.cls ≠ "java/lang/invoke/VarHandle" ∧ (parseMethodDescriptor yX9_outs.desc).map (fun d => d.parameters.length) = some 0 := by decide +kernel
theorem hdX9_planNow : yX9_planNow.cls = RX9 ∧ yX9_planNow.cls ≠ "java/lang/invoke/MethodHandle" ∧ yX9_planNow.cls ≠ "java/lang/invoke/VarHandle" ∧ (parseMethodDescriptor yX9_planNow.desc).map (fun d => d.parameters.length) = some 1 := by decide +kernel
theorem hdX9_planned : yX9_planned.cls = RX9 ∧ yX9_planned.cls ≠ "java/lang/invoke/MethodHandle" ∧ yX9_planned.cls ≠ "java/lang/invoke/VarHandle" ∧ (parseMethodDescriptor yX9_planned.desc).map (fun d => d.parameters.length) = some 7 := by decide +kernel
theorem hdX9_plannedBehind : yX9_plannedBehind.cls = RX9 ∧ yX9_plannedBehind.cls ≠ "java/lang/invoke/MethodHandle" ∧ yX9_plannedBehind.cls ≠ "java/lang/invoke/VarHandle" ∧ (parseMethodDescriptor yX9_plannedBehind.desc).map (fun d => d.parameters.length) = some 4 := by decide +kernel
theorem hdX9_playsOn : yX9_playsOn.cls = RX9 ∧ yX9_playsOn.cls ≠ "java/lang/invoke/MethodHandle" ∧ yX9_playsOn.cls ≠ "java/lang/invoke/VarHandle" ∧ (parseMethodDescriptor yX9_playsOn.desc).map (fun d => d.parameters.length) = some 0 := by decide +kernel
theorem hdX9_roundOf : yX9_roundOf.cls = RX9 ∧ yX9_roundOf.cls ≠ "java/lang/invoke/MethodHandle" ∧ yX9_roundOf.cls ≠ "java/lang/invoke/VarHandle" ∧ (parseMethodDescriptor yX9_roundOf.desc).map (fun d => d.parameters.length) = some 1 := by decide +kernel
theorem hdX9_sumAhead : yX9_sumAhead.cls = RX9 ∧ yX9_sumAhead.cls ≠ "java/lang/invoke/MethodHandle" ∧ yX9_sumAhead.cls ≠ "java/lang/invoke/VarHandle" ∧ (parseMethodDescriptor yX9_sumAhead.desc).map (fun d => d.parameters.length) = some 1 := by decide +kernel
theorem hdX9_tellsFree : yX9_tellsFree.cls = RX9 ∧ yX9_tellsFree.cls ≠ "java/lang/invoke/MethodHandle" ∧ yX9_tellsFree.cls ≠ "java/lang/invoke/VarHandle" ∧ (parseMethodDescriptor yX9_tellsFree.desc).map (fun d => d.parameters.length) = some 1 := by decide +kernel
theorem hdX9_triesBest : yX9_triesBest.cls = RX9 ∧ yX9_triesBest.cls ≠ "java/lang/invoke/MethodHandle" ∧ yX9_triesBest.cls ≠ "java/lang/invoke/VarHandle" ∧ (parseMethodDescriptor yX9_triesBest.desc).map (fun d => d.parameters.length) = some 6 := by decide +kernel
theorem hdX9_whyNoDuel : yX9_whyNoDuel.cls = RX9 ∧ yX9_whyNoDuel.cls ≠ "java/lang/invoke/MethodHandle" ∧ yX9_whyNoDuel.cls ≠ "java/lang/invoke/VarHandle" ∧ (parseMethodDescriptor yX9_whyNoDuel.desc).map (fun d => d.parameters.length) = some 2 := by decide +kernel
theorem hdX9_winOf : yX9_winOf.cls = RX9 ∧ yX9_winOf.cls ≠ "java/lang/invoke/MethodHandle" ∧ yX9_winOf.cls ≠ "java/lang/invoke/VarHandle" ∧ (parseMethodDescriptor yX9_winOf.desc).map (fun d => d.parameters.length) = some 1 := by decide +kernel
def m_X9_aimsMass_L2 : Nat → St → Int32 → Option (St)
  | 0, _, _ => none
  | n + 1, T, x1 =>
    if 121 ≤ x1 then (some T) else (ck x1 122 (nm (sA T 28 x1.toNatClampNeg (1000 * x1)) (fun T5 => m_X9_aimsMass_L2 n T5 (x1 + 1))))
theorem m_X9_aimsMass_L2_0 (T : St) (x1 : Int32) : m_X9_aimsMass_L2 0 T x1 = none := rfl
theorem m_X9_aimsMass_L2_s {n : Nat} {T : St} {x1 : Int32} : m_X9_aimsMass_L2 (n + 1) T x1 =
    (if 121 ≤ x1 then (some T) else (ck x1 122 (nm (sA T 28 x1.toNatClampNeg (1000 * x1)) (fun T5 => m_X9_aimsMass_L2 n T5 (x1 + 1))))) := rfl
def m_X9_aimsMass (n : Nat) (T : St) : Option (St) :=
  (m_X9_aimsMass_L2 n T 0).bind (fun q1 => some q1)
set_option maxHeartbeats 4000000 in
set_option maxRecDepth 100000 in
theorem c_X9_aimsMass (l : Launch) (D : va_G) (cy : Nat → ClassId) (ad : Nat → Nat) (X : va_W) (n : Nat) (T : St) (r : (St)) (h : m_X9_aimsMass n T = some r) : CT l yX9_aimsMass (wu yX9_aimsMass cX9_aimsMass 2 none) 0 D cy [.ref (ad 0)] (wR ad cy T ++ X) (none) (wR ad cy r ++ X) := by
  refine CT.mk (cc := cX9_aimsMass) (maxL := 2) (ret := none) (own := RX9) (by decide) rfl rfl (Nat.le_of_ble_eq_true rfl) ?_
  intro p e s m args below meth c ls A Q hA hQ hC hr hk hW hl
  have hx := hC.1
  have hb := hC.2.1
  have hown := hC.2.2.2.1
  have hts := hC.2.2.2.2
  have hl : lv_has ls 2 [(0, .ref (ad 0))] := hl
  have f56 := hts _ (wu_in w_5_18)
  have i9 := (fun w h => wu_in (inc_9 w h) : ∀ w ∈ u_ws RX9 TX9 40, w ∈ (wu yX9_aimsMass cX9_aimsMass 2 none))
  unfold m_X9_aimsMass at h
  refine lv_iconst (v := 0) hx hb dX9_aimsMass_0 (by decide) ?_
  refine lv_istore_n (lv' := [(1, .int 0), (0, .ref (ad 0))]) hx hb dX9_aimsMass_1 rfl hl (by decide) rfl (fun ls hl => ?_)
  have hL2 : ∀ (n : Nat) (T : St) (x1 : Int32)  (H : Heap) (locs : List Loc) (ls : Array Slot) (r : (St)), m_X9_aimsMass_L2 n T x1 = some r → Wd D cy A s (wR ad cy T ++ X) H locs → lv_has ls 2 [(0, .ref (ad 0)), (1, .int x1)] → (∀ (H : Heap) (locs : List Loc) (ls : Array Slot), Wd D cy A s (wR ad cy r ++ X) H locs → lv_has ls 2 [(0, .ref (ad 0))] → W p l e (RM 0) s m args below meth c H locs 0 0 Q (F0 m 25 ls [])) → W p l e (RM 0) s m args below meth c H locs 0 0 Q (F0 m 2 ls []) := by
    intro n
    induction n with
    | zero =>
      intro T x1  H locs ls r h
      exact absurd (h.symm.trans (m_X9_aimsMass_L2_0 ..)) (by simp)
    | succ n ih =>
      intro T x1  H locs ls r h hW hl kk
      rw [m_X9_aimsMass_L2_s] at h
      refine lv_iload_n hx hb dX9_aimsMass_2 rfl (lv_at hl 1 rfl) ?_
      refine lv_bipush (v := 121) hx hb dX9_aimsMass_3 (by decide) ?_
      refine lv_icmp_ge (tgt := 25) hx hb dX9_aimsMass_5 (by decide) (fun c3 => ?_) (fun c3 => ?_)
      · replace h := ite_t h c3
        obtain rfl := Option.some.inj h
        exact kk _ _ _ hW (lv_sub hl [0] rfl)
      · replace h := ite_f h c3
        refine lv_aload_n hx hb dX9_aimsMass_8 rfl (lv_at hl 0 rfl) ?_
        refine wd_get hC i9 hW 0 wR_c0 rfl 28 (Nat.le_of_ble_eq_true rfl) f56 rfl rfl dX9_aimsMass_9 ?_
        refine lv_iload_n hx hb dX9_aimsMass_12 rfl (lv_at hl 1 rfl) ?_
        refine lv_sipush (v := 1000) hx hb dX9_aimsMass_13 (by decide) ?_
        refine lv_iload_n hx hb dX9_aimsMass_16 rfl (lv_at hl 1 rfl) ?_
        refine lv_imul hx hb dX9_aimsMass_17 ?_
        obtain ⟨hi4, h⟩ := ck_of h
        refine wd_iast hC hW 16 wR_c16 hi4 wR_t16 dX9_aimsMass_18 (fun H locs hW => ?_)
        obtain ⟨T5, e6, h⟩ := nm_of h
        replace hW := wq_T e6 hW
        refine lv_iinc (v := x1 + 1) (lv' := [(1, .int (x1 + 1)), (0, .ref (ad 0))]) hx hb dX9_aimsMass_19 hl (k := 1) rfl rfl (by decide) rfl (fun ls hl => ?_)
        refine lv_goto (tgt := 2) hx hb dX9_aimsMass_22 (by decide) ?_
        exact ih T5 (x1 + 1) _ _ _ r h hW (lv_sub hl [1, 0] rfl) kk
  obtain ⟨q1, hq2, h⟩ := bd_of h
  refine hL2 n T 0  _ _ _ q1 hq2 hW (lv_sub hl [1, 0] rfl) (fun H locs ls hW hl => ?_)
  obtain rfl := Option.some.inj h
  exact wd_vret hA hQ hC hr hk hW dX9_aimsMass_25
def m_X9_aimsReach_L2 : Nat → St → Int32 → Int32 → Option (St)
  | 0, _, _, _ => none
  | n + 1, T, x1, x2 =>
    if 121 ≤ x2 then (some T) else (if x2 < x1 then (ck x2 122 (nm (sA T 28 x2.toNatClampNeg 0) (fun T6 => m_X9_aimsReach_L2 n T6 x1 (x2 + 1)))) else (ck x2 122 (nm (sA T 28 x2.toNatClampNeg 1000000) (fun T9 => m_X9_aimsReach_L2 n T9 x1 (x2 + 1)))))
theorem m_X9_aimsReach_L2_0 (T : St) (x1 : Int32) (x2 : Int32) : m_X9_aimsReach_L2 0 T x1 x2 = none := rfl
theorem m_X9_aimsReach_L2_s {n : Nat} {T : St} {x1 : Int32} {x2 : Int32} : m_X9_aimsReach_L2 (n + 1) T x1 x2 =
    (if 121 ≤ x2 then (some T) else (if x2 < x1 then (ck x2 122 (nm (sA T 28 x2.toNatClampNeg 0) (fun T6 => m_X9_aimsReach_L2 n T6 x1 (x2 + 1)))) else (ck x2 122 (nm (sA T 28 x2.toNatClampNeg 1000000) (fun T9 => m_X9_aimsReach_L2 n T9 x1 (x2 + 1)))))) := rfl
def m_X9_aimsReach (n : Nat) (T : St) (p0 : Int32) : Option (St) :=
  (m_X9_aimsReach_L2 n T p0 0).bind (fun q1 => some q1)
set_option maxHeartbeats 4000000 in
set_option maxRecDepth 100000 in
theorem c_X9_aimsReach (l : Launch) (D : va_G) (cy : Nat → ClassId) (ad : Nat → Nat) (X : va_W) (n : Nat) (T : St) (p0 : Int32) (r : (St)) (h : m_X9_aimsReach n T p0 = some r) : CT l yX9_aimsReach (wu yX9_aimsReach cX9_aimsReach 3 none) 0 D cy [.ref (ad 0), .int p0] (wR ad cy T ++ X) (none) (wR ad cy r ++ X) := by
  refine CT.mk (cc := cX9_aimsReach) (maxL := 3) (ret := none) (own := RX9) (by decide) rfl rfl (Nat.le_of_ble_eq_true rfl) ?_
  intro p e s m args below meth c ls A Q hA hQ hC hr hk hW hl
  have hx := hC.1
  have hb := hC.2.1
  have hown := hC.2.2.2.1
  have hts := hC.2.2.2.2
  have hl : lv_has ls 3 [(0, .ref (ad 0)), (1, .int p0)] := hl
  have f56 := hts _ (wu_in w_5_18)
  have i9 := (fun w h => wu_in (inc_9 w h) : ∀ w ∈ u_ws RX9 TX9 40, w ∈ (wu yX9_aimsReach cX9_aimsReach 3 none))
  have k264 := hts _ (wu_in w_30_12)
  unfold m_X9_aimsReach at h
  refine lv_iconst (v := 0) hx hb dX9_aimsReach_0 (by decide) ?_
  refine lv_istore_n (lv' := [(2, .int 0), (0, .ref (ad 0)), (1, .int p0)]) hx hb dX9_aimsReach_1 rfl hl (by decide) rfl (fun ls hl => ?_)
  have hL2 : ∀ (n : Nat) (T : St) (x1 : Int32) (x2 : Int32)  (H : Heap) (locs : List Loc) (ls : Array Slot) (r : (St)), m_X9_aimsReach_L2 n T x1 x2 = some r → Wd D cy A s (wR ad cy T ++ X) H locs → lv_has ls 3 [(0, .ref (ad 0)), (1, .int x1), (2, .int x2)] → (∀ (H : Heap) (locs : List Loc) (ls : Array Slot), Wd D cy A s (wR ad cy r ++ X) H locs → lv_has ls 3 [(0, .ref (ad 0)), (1, .int x1)] → W p l e (RM 0) s m args below meth c H locs 0 0 Q (F0 m 32 ls [])) → W p l e (RM 0) s m args below meth c H locs 0 0 Q (F0 m 2 ls []) := by
    intro n
    induction n with
    | zero =>
      intro T x1 x2  H locs ls r h
      exact absurd (h.symm.trans (m_X9_aimsReach_L2_0 ..)) (by simp)
    | succ n ih =>
      intro T x1 x2  H locs ls r h hW hl kk
      rw [m_X9_aimsReach_L2_s] at h
      refine lv_iload_n hx hb dX9_aimsReach_2 rfl (lv_at hl 2 rfl) ?_
      refine lv_bipush (v := 121) hx hb dX9_aimsReach_3 (by decide) ?_
      refine lv_icmp_ge (tgt := 32) hx hb dX9_aimsReach_5 (by decide) (fun c3 => ?_) (fun c3 => ?_)
      · replace h := ite_t h c3
        obtain rfl := Option.some.inj h
        exact kk _ _ _ hW (lv_sub hl [0, 1] rfl)
      · replace h := ite_f h c3
        refine lv_aload_n hx hb dX9_aimsReach_8 rfl (lv_at hl 0 rfl) ?_
        refine wd_get hC i9 hW 0 wR_c0 rfl 28 (Nat.le_of_ble_eq_true rfl) f56 rfl rfl dX9_aimsReach_9 ?_
        refine lv_iload_n hx hb dX9_aimsReach_12 rfl (lv_at hl 2 rfl) ?_
        refine lv_iload_n hx hb dX9_aimsReach_13 rfl (lv_at hl 2 rfl) ?_
        refine lv_iload_n hx hb dX9_aimsReach_14 rfl (lv_at hl 1 rfl) ?_
        refine lv_icmp_lt (tgt := 24) hx hb dX9_aimsReach_15 (by decide) (fun c4 => ?_) (fun c4 => ?_)
        · replace h := ite_t h c4
          refine lv_iconst (v := 0) hx hb dX9_aimsReach_24 (by decide) ?_
          obtain ⟨hi5, h⟩ := ck_of h
          refine wd_iast hC hW 16 wR_c16 hi5 wR_t16 dX9_aimsReach_25 (fun H locs hW => ?_)
          obtain ⟨T6, e7, h⟩ := nm_of h
          replace hW := wq_T e7 hW
          refine lv_iinc (v := x2 + 1) (lv' := [(2, .int (x2 + 1)), (0, .ref (ad 0)), (1, .int x1)]) hx hb dX9_aimsReach_26 hl (k := 2) rfl rfl (by decide) rfl (fun ls hl => ?_)
          refine lv_goto (tgt := 2) hx hb dX9_aimsReach_29 (by decide) ?_
          exact ih T6 x1 (x2 + 1) _ _ _ r h hW (lv_sub hl [1, 2, 0] rfl) kk
        · replace h := ite_f h c4
          refine lv_ldcw hx hb hown k264 dX9_aimsReach_18 ?_
          refine lv_goto (tgt := 25) hx hb dX9_aimsReach_21 (by decide) ?_
          obtain ⟨hi8, h⟩ := ck_of h
          refine wd_iast hC hW 16 wR_c16 hi8 wR_t16 dX9_aimsReach_25 (fun H locs hW => ?_)
          obtain ⟨T9, e10, h⟩ := nm_of h
          replace hW := wq_T e10 hW
          refine lv_iinc (v := x2 + 1) (lv' := [(2, .int (x2 + 1)), (0, .ref (ad 0)), (1, .int x1)]) hx hb dX9_aimsReach_26 hl (k := 2) rfl rfl (by decide) rfl (fun ls hl => ?_)
          refine lv_goto (tgt := 2) hx hb dX9_aimsReach_29 (by decide) ?_
          exact ih T9 x1 (x2 + 1) _ _ _ r h hW (lv_sub hl [1, 2, 0] rfl) kk
  obtain ⟨q1, hq2, h⟩ := bd_of h
  refine hL2 n T p0 0  _ _ _ q1 hq2 hW (lv_sub hl [1, 2, 0] rfl) (fun H locs ls hW hl => ?_)
  obtain rfl := Option.some.inj h
  exact wd_vret hA hQ hC hr hk hW dX9_aimsReach_32
def m_X9_expected (T : St) (p0 : Int32) (p1 : Int32) (p2 : Int32) : Option (Int32) :=
  some ((((p0.toInt64 * p1.toInt64) + (((1000 - p0).toInt64) * p2.toInt64)) / 1000).toInt32)
set_option maxHeartbeats 4000000 in
set_option maxRecDepth 100000 in
theorem c_X9_expected (l : Launch) (D : va_G) (cy : Nat → ClassId) (ad : Nat → Nat) (X : va_W) (T : St) (p0 : Int32) (p1 : Int32) (p2 : Int32) (r : (Int32)) (h : m_X9_expected T p0 p1 p2 = some r) : CT l yX9_expected (wu yX9_expected cX9_expected 3 (some .int)) 0 D cy [.int p0, .int p1, .int p2] (wR ad cy T ++ X) (some (.int r)) (wR ad cy T ++ X) := by
  refine CT.mk (cc := cX9_expected) (maxL := 3) (ret := (some .int)) (own := RX9) (by decide) rfl rfl (Nat.le_of_ble_eq_true rfl) ?_
  intro p e s m args below meth c ls A Q hA hQ hC hr hk hW hl
  have hx := hC.1
  have hb := hC.2.1
  have hown := hC.2.2.2.1
  have hts := hC.2.2.2.2
  have hl : lv_has ls 3 [(0, .int p0), (1, .int p1), (2, .int p2)] := hl
  have k265 := hts _ (wu_in w_29_6)
  unfold m_X9_expected at h
  refine lv_iload_n hx hb dX9_expected_0 rfl (lv_at hl 0 rfl) ?_
  refine lv_i2l (v := p0.toInt64) hx hb dX9_expected_1 rfl ?_
  refine lv_iload_n hx hb dX9_expected_2 rfl (lv_at hl 1 rfl) ?_
  refine lv_i2l (v := p1.toInt64) hx hb dX9_expected_3 rfl ?_
  refine lv_lmul hx hb dX9_expected_4 ?_
  refine lv_sipush (v := 1000) hx hb dX9_expected_5 (by decide) ?_
  refine lv_iload_n hx hb dX9_expected_8 rfl (lv_at hl 0 rfl) ?_
  refine lv_isub hx hb dX9_expected_9 ?_
  refine lv_i2l (v := (1000 - p0).toInt64) hx hb dX9_expected_10 rfl ?_
  refine lv_iload_n hx hb dX9_expected_11 rfl (lv_at hl 2 rfl) ?_
  refine lv_i2l (v := p2.toInt64) hx hb dX9_expected_12 rfl ?_
  refine lv_lmul hx hb dX9_expected_13 ?_
  refine lv_ladd hx hb dX9_expected_14 ?_
  refine lv_ldc2 hx hb hown k265 dX9_expected_15 ?_
  refine lv_ldiv hx hb dX9_expected_18 (by decide) ?_
  refine lv_l2i (v := (((p0.toInt64 * p1.toInt64) + (((1000 - p0).toInt64) * p2.toInt64)) / 1000).toInt32) hx hb dX9_expected_19 rfl ?_
  obtain rfl := Option.some.inj h
  exact wd_iret hA hQ hC hr hk hW dX9_expected_20
def m_X9_roundOf (T : St) (p0 : Int32) : Option (Int32) :=
  ck 1 63 ((m_X9_of T p0 1).bind (fun r2 => some ((T.2.1 11 ((1 : Int32).toNatClampNeg)) + r2)))
set_option maxHeartbeats 4000000 in
set_option maxRecDepth 100000 in
theorem c_X9_roundOf (l : Launch) (D : va_G) (cy : Nat → ClassId) (ad : Nat → Nat) (X : va_W) (T : St) (p0 : Int32) (r : (Int32)) (h : m_X9_roundOf T p0 = some r) : CT l yX9_roundOf (wu yX9_roundOf cX9_roundOf 2 (some .int)) 1 D cy [.ref (ad 0), .int p0] (wR ad cy T ++ X) (some (.int r)) (wR ad cy T ++ X) := by
  refine CT.mk (cc := cX9_roundOf) (maxL := 2) (ret := (some .int)) (own := RX9) (by decide) rfl rfl (Nat.le_of_ble_eq_true rfl) ?_
  intro p e s m args below meth c ls A Q hA hQ hC hr hk hW hl
  have hx := hC.1
  have hb := hC.2.1
  have hown := hC.2.2.2.1
  have hts := hC.2.2.2.2
  have hl : lv_has ls 2 [(0, .ref (ad 0)), (1, .int p0)] := hl
  have f32 := hts _ (wu_in w_5_10)
  have i9 := (fun w h => wu_in (inc_9 w h) : ∀ w ∈ u_ws RX9 TX9 40, w ∈ (wu yX9_roundOf cX9_roundOf 2 (some .int)))
  unfold m_X9_roundOf at h
  refine lv_aload_n hx hb dX9_roundOf_0 rfl (lv_at hl 0 rfl) ?_
  refine wd_get hC i9 hW 0 wR_c0 rfl 11 (Nat.le_of_ble_eq_true rfl) f32 rfl rfl dX9_roundOf_1 ?_
  refine lv_iconst (v := 1) hx hb dX9_roundOf_4 (by decide) ?_
  obtain ⟨hi1, h⟩ := ck_of h
  refine wd_iald hC hW 8 wR_c8 hi1 dX9_roundOf_5 ?_
  refine lv_aload_n hx hb dX9_roundOf_6 rfl (lv_at hl 0 rfl) ?_
  refine lv_iload_n hx hb dX9_roundOf_7 rfl (lv_at hl 1 rfl) ?_
  refine lv_iconst (v := 1) hx hb dX9_roundOf_8 (by decide) ?_
  obtain ⟨r2, hr3, h⟩ := bd_of h
  refine wd_callV1 (As := [.int p0, .int 1]) hC hW 0 wR_c0 rfl (c_X9_of l D cy ad X T p0 1 r2 hr3) (cwV 2 hts (gu_V w_12_0 w_11_21 w_11_22 w_11_23 w_1_5) rfl rfl rfl hdX9_of ⟨Nat.le_of_ble_eq_true rfl, Nat.le_of_ble_eq_true rfl⟩) rfl hl.1 rfl (Nat.le_of_ble_eq_true rfl) ⟨Nat.zero_le _, Nat.zero_le _⟩ dX9_roundOf_9 (fun H locs hW => ?_)
  refine lv_iadd hx hb dX9_roundOf_12 ?_
  obtain rfl := Option.some.inj h
  exact wd_iret hA hQ hC hr hk hW dX9_roundOf_13
def m_X9_sumAhead_L4 : Nat → St → Int32 → Int32 → Int32 → Option (Int32)
  | 0, _, _, _, _ => none
  | n + 1, T, x1, x2, x3 =>
    ck 0 63 (if (T.2.1 11 ((0 : Int32).toNatClampNeg)) ≤ x3 then (some x2) else ((m_X9_of T x1 (7 + x3)).bind (fun r5 => m_X9_sumAhead_L4 n T x1 (x2 + r5) (x3 + 1))))
theorem m_X9_sumAhead_L4_0 (T : St) (x1 : Int32) (x2 : Int32) (x3 : Int32) : m_X9_sumAhead_L4 0 T x1 x2 x3 = none := rfl
theorem m_X9_sumAhead_L4_s {n : Nat} {T : St} {x1 : Int32} {x2 : Int32} {x3 : Int32} : m_X9_sumAhead_L4 (n + 1) T x1 x2 x3 =
    (ck 0 63 (if (T.2.1 11 ((0 : Int32).toNatClampNeg)) ≤ x3 then (some x2) else ((m_X9_of T x1 (7 + x3)).bind (fun r5 => m_X9_sumAhead_L4 n T x1 (x2 + r5) (x3 + 1))))) := rfl
def m_X9_sumAhead (n : Nat) (T : St) (p0 : Int32) : Option (Int32) :=
  (m_X9_sumAhead_L4 n T p0 0 0).bind (fun q1 => some q1)
set_option maxHeartbeats 4000000 in
set_option maxRecDepth 100000 in
theorem c_X9_sumAhead (l : Launch) (D : va_G) (cy : Nat → ClassId) (ad : Nat → Nat) (X : va_W) (n : Nat) (T : St) (p0 : Int32) (r : (Int32)) (h : m_X9_sumAhead n T p0 = some r) : CT l yX9_sumAhead (wu yX9_sumAhead cX9_sumAhead 4 (some .int)) 1 D cy [.ref (ad 0), .int p0] (wR ad cy T ++ X) (some (.int r)) (wR ad cy T ++ X) := by
  refine CT.mk (cc := cX9_sumAhead) (maxL := 4) (ret := (some .int)) (own := RX9) (by decide) rfl rfl (Nat.le_of_ble_eq_true rfl) ?_
  intro p e s m args below meth c ls A Q hA hQ hC hr hk hW hl
  have hx := hC.1
  have hb := hC.2.1
  have hown := hC.2.2.2.1
  have hts := hC.2.2.2.2
  have hl : lv_has ls 4 [(0, .ref (ad 0)), (1, .int p0)] := hl
  have f32 := hts _ (wu_in w_5_10)
  have i9 := (fun w h => wu_in (inc_9 w h) : ∀ w ∈ u_ws RX9 TX9 40, w ∈ (wu yX9_sumAhead cX9_sumAhead 4 (some .int)))
  unfold m_X9_sumAhead at h
  refine lv_iconst (v := 0) hx hb dX9_sumAhead_0 (by decide) ?_
  refine lv_istore_n (lv' := [(2, .int 0), (0, .ref (ad 0)), (1, .int p0)]) hx hb dX9_sumAhead_1 rfl hl (by decide) rfl (fun ls hl => ?_)
  refine lv_iconst (v := 0) hx hb dX9_sumAhead_2 (by decide) ?_
  refine lv_istore_n (lv' := [(3, .int 0), (2, .int 0), (0, .ref (ad 0)), (1, .int p0)]) hx hb dX9_sumAhead_3 rfl hl (by decide) rfl (fun ls hl => ?_)
  have hL4 : ∀ (n : Nat) (x1 : Int32) (x2 : Int32) (x3 : Int32)  (H : Heap) (locs : List Loc) (ls : Array Slot) (r : (Int32)), m_X9_sumAhead_L4 n T x1 x2 x3 = some r → Wd D cy A s (wR ad cy T ++ X) H locs → lv_has ls 4 [(0, .ref (ad 0)), (1, .int x1), (2, .int x2), (3, .int x3)] → (∀ (H : Heap) (locs : List Loc) (ls : Array Slot), Wd D cy A s (wR ad cy T ++ X) H locs → lv_has ls 4 [(0, .ref (ad 0)), (1, .int x1), (2, .int r)] → W p l e (RM 1) s m args below meth c H locs 0 0 Q (F0 m 32 ls [])) → W p l e (RM 1) s m args below meth c H locs 0 0 Q (F0 m 4 ls []) := by
    intro n
    induction n with
    | zero =>
      intro x1 x2 x3  H locs ls r h
      exact absurd (h.symm.trans (m_X9_sumAhead_L4_0 ..)) (by simp)
    | succ n ih =>
      intro x1 x2 x3  H locs ls r h hW hl kk
      rw [m_X9_sumAhead_L4_s] at h
      refine lv_iload_n hx hb dX9_sumAhead_4 rfl (lv_at hl 3 rfl) ?_
      refine lv_aload_n hx hb dX9_sumAhead_5 rfl (lv_at hl 0 rfl) ?_
      refine wd_get hC i9 hW 0 wR_c0 rfl 11 (Nat.le_of_ble_eq_true rfl) f32 rfl rfl dX9_sumAhead_6 ?_
      refine lv_iconst (v := 0) hx hb dX9_sumAhead_9 (by decide) ?_
      obtain ⟨hi3, h⟩ := ck_of h
      refine wd_iald hC hW 8 wR_c8 hi3 dX9_sumAhead_10 ?_
      refine lv_icmp_ge (tgt := 32) hx hb dX9_sumAhead_11 (by decide) (fun c4 => ?_) (fun c4 => ?_)
      · replace h := ite_t h c4
        obtain rfl := Option.some.inj h
        exact kk _ _ _ hW (lv_sub hl [0, 1, 2] rfl)
      · replace h := ite_f h c4
        refine lv_iload_n hx hb dX9_sumAhead_14 rfl (lv_at hl 2 rfl) ?_
        refine lv_aload_n hx hb dX9_sumAhead_15 rfl (lv_at hl 0 rfl) ?_
        refine lv_iload_n hx hb dX9_sumAhead_16 rfl (lv_at hl 1 rfl) ?_
        refine lv_bipush (v := 7) hx hb dX9_sumAhead_17 (by decide) ?_
        refine lv_iload_n hx hb dX9_sumAhead_19 rfl (lv_at hl 3 rfl) ?_
        refine lv_iadd hx hb dX9_sumAhead_20 ?_
        obtain ⟨r5, hr6, h⟩ := bd_of h
        refine wd_callV1 (As := [.int x1, .int (7 + x3)]) hC hW 0 wR_c0 rfl (c_X9_of l D cy ad X T x1 (7 + x3) r5 hr6) (cwV 2 hts (gu_V w_12_0 w_11_21 w_11_22 w_11_23 w_1_5) rfl rfl rfl hdX9_of ⟨Nat.le_of_ble_eq_true rfl, Nat.le_of_ble_eq_true rfl⟩) rfl hl.1 rfl (Nat.le_of_ble_eq_true rfl) ⟨Nat.zero_le _, Nat.zero_le _⟩ dX9_sumAhead_21 (fun H locs hW => ?_)
        refine lv_iadd hx hb dX9_sumAhead_24 ?_
        refine lv_istore_n (lv' := [(2, .int (x2 + r5)), (0, .ref (ad 0)), (1, .int x1), (3, .int x3)]) hx hb dX9_sumAhead_25 rfl hl (by decide) rfl (fun ls hl => ?_)
        refine lv_iinc (v := x3 + 1) (lv' := [(3, .int (x3 + 1)), (2, .int (x2 + r5)), (0, .ref (ad 0)), (1, .int x1)]) hx hb dX9_sumAhead_26 hl (k := 3) rfl rfl (by decide) rfl (fun ls hl => ?_)
        refine lv_goto (tgt := 4) hx hb dX9_sumAhead_29 (by decide) ?_
        exact ih x1 (x2 + r5) (x3 + 1) _ _ _ r h hW (lv_sub hl [2, 3, 1, 0] rfl) kk
  obtain ⟨q1, hq2, h⟩ := bd_of h
  refine hL4 n p0 0 0  _ _ _ q1 hq2 hW (lv_sub hl [2, 3, 1, 0] rfl) (fun H locs ls hW hl => ?_)
  refine lv_iload_n hx hb dX9_sumAhead_32 rfl (lv_at hl 2 rfl) ?_
  obtain rfl := Option.some.inj h
  exact wd_iret hA hQ hC hr hk hW dX9_sumAhead_33
def m_X9_beatBy (T : St) (p0 : Int32) (p1 : Int32) (p2 : Int32) : Option (Int32) :=
  if p2 = 0 then (some 0) else ((m_X9_isLighter T p0 p1).bind (fun r2 => (m_X9_flag T r2).bind (fun r4 => ck (p2 + r4) 122 (some (1000000 - (T.2.1 29 (p2 + r4).toNatClampNeg))))))
set_option maxHeartbeats 4000000 in
set_option maxRecDepth 100000 in
theorem c_X9_beatBy (l : Launch) (D : va_G) (cy : Nat → ClassId) (ad : Nat → Nat) (X : va_W) (T : St) (p0 : Int32) (p1 : Int32) (p2 : Int32) (r : (Int32)) (h : m_X9_beatBy T p0 p1 p2 = some r) : CT l yX9_beatBy (wu yX9_beatBy cX9_beatBy 4 (some .int)) 1 D cy [.ref (ad 0), .int p0, .int p1, .int p2] (wR ad cy T ++ X) (some (.int r)) (wR ad cy T ++ X) := by
  refine CT.mk (cc := cX9_beatBy) (maxL := 4) (ret := (some .int)) (own := RX9) (by decide) rfl rfl (Nat.le_of_ble_eq_true rfl) ?_
  intro p e s m args below meth c ls A Q hA hQ hC hr hk hW hl
  have hx := hC.1
  have hb := hC.2.1
  have hown := hC.2.2.2.1
  have hts := hC.2.2.2.2
  have hl : lv_has ls 4 [(0, .ref (ad 0)), (1, .int p0), (2, .int p1), (3, .int p2)] := hl
  have k264 := hts _ (wu_in w_30_12)
  have f59 := hts _ (wu_in w_5_19)
  have i9 := (fun w h => wu_in (inc_9 w h) : ∀ w ∈ u_ws RX9 TX9 40, w ∈ (wu yX9_beatBy cX9_beatBy 4 (some .int)))
  unfold m_X9_beatBy at h
  refine lv_iload_n hx hb dX9_beatBy_0 rfl (lv_at hl 3 rfl) ?_
  refine lv_if_ne (tgt := 8) hx hb dX9_beatBy_1 (by decide) (fun c1 => ?_) (fun c1 => ?_)
  · replace h := ite_f h c1
    refine lv_ldcw hx hb hown k264 dX9_beatBy_8 ?_
    refine lv_aload_n hx hb dX9_beatBy_11 rfl (lv_at hl 0 rfl) ?_
    refine wd_get hC i9 hW 0 wR_c0 rfl 29 (Nat.le_of_ble_eq_true rfl) f59 rfl rfl dX9_beatBy_12 ?_
    refine lv_iload_n hx hb dX9_beatBy_15 rfl (lv_at hl 3 rfl) ?_
    refine lv_aload_n hx hb dX9_beatBy_16 rfl (lv_at hl 0 rfl) ?_
    refine lv_iload_n hx hb dX9_beatBy_17 rfl (lv_at hl 1 rfl) ?_
    refine lv_iload_n hx hb dX9_beatBy_18 rfl (lv_at hl 2 rfl) ?_
    obtain ⟨r2, hr3, h⟩ := bd_of h
    refine wd_callV1 (As := [.int p0, .int p1]) hC hW 0 wR_c0 rfl (c_X9_isLighter l D cy ad X T p0 p1 r2 hr3) (cwV 2 hts (gu_V w_24_7 w_24_4 w_24_5 w_24_6 w_1_5) rfl rfl rfl hdX9_isLighter ⟨Nat.le_of_ble_eq_true rfl, Nat.le_of_ble_eq_true rfl⟩) rfl hl.1 rfl (Nat.le_of_ble_eq_true rfl) ⟨Nat.zero_le _, Nat.zero_le _⟩ dX9_beatBy_19 (fun H locs hW => ?_)
    obtain ⟨r4, hr5, h⟩ := bd_of h
    refine wd_callS1 (As := [.int r2]) hC hW (c_X9_flag l D cy ad X T r2 r4 hr5) (va_cwS 1 hts (gu_S w_17_18 w_17_16 w_17_17 w_1_5) rfl rfl rfl hdX9_flag ⟨Nat.le_of_ble_eq_true rfl, Nat.le_of_ble_eq_true rfl⟩) rfl hl.1 rfl (Nat.le_of_ble_eq_true rfl) ⟨Nat.zero_le _, Nat.zero_le _⟩ dX9_beatBy_22 (fun H locs hW => ?_)
    refine lv_iadd hx hb dX9_beatBy_25 ?_
    obtain ⟨hi6, h⟩ := ck_of h
    refine wd_iald hC hW 17 wR_c17 hi6 dX9_beatBy_26 ?_
    refine lv_isub hx hb dX9_beatBy_27 ?_
    obtain rfl := Option.some.inj h
    exact wd_iret hA hQ hC hr hk hW dX9_beatBy_28
  · replace h := ite_t h c1
    refine lv_iconst (v := 0) hx hb dX9_beatBy_4 (by decide) ?_
    refine lv_goto (tgt := 28) hx hb dX9_beatBy_5 (by decide) ?_
    obtain rfl := Option.some.inj h
    exact wd_iret hA hQ hC hr hk hW dX9_beatBy_28
def m_X9_isTotal (T : St) (p0 : Int32) : Option (Int32) :=
  (m_X9_in T p0.toInt64 0 121).bind (fun r1 => ckb r1 (some r1))
set_option maxHeartbeats 4000000 in
set_option maxRecDepth 100000 in
theorem c_X9_isTotal (l : Launch) (D : va_G) (cy : Nat → ClassId) (ad : Nat → Nat) (X : va_W) (T : St) (p0 : Int32) (r : (Int32)) (h : m_X9_isTotal T p0 = some r) : CT l yX9_isTotal (wu yX9_isTotal cX9_isTotal 1 (some .boolean)) 1 D cy [.int p0] (wR ad cy T ++ X) (some (.int r)) (wR ad cy T ++ X) := by
  refine CT.mk (cc := cX9_isTotal) (maxL := 1) (ret := (some .boolean)) (own := RX9) (by decide) rfl rfl (Nat.le_of_ble_eq_true rfl) ?_
  intro p e s m args below meth c ls A Q hA hQ hC hr hk hW hl
  have hx := hC.1
  have hb := hC.2.1
  have hown := hC.2.2.2.1
  have hts := hC.2.2.2.2
  have hl : lv_has ls 1 [(0, .int p0)] := hl
  have k304 := hts _ (wu_in w_30_3)
  unfold m_X9_isTotal at h
  refine lv_iload_n hx hb dX9_isTotal_0 rfl (lv_at hl 0 rfl) ?_
  refine lv_i2l (v := p0.toInt64) hx hb dX9_isTotal_1 rfl ?_
  refine lv_lconst (v := 0) hx hb dX9_isTotal_2 (by decide) ?_
  refine lv_ldc2 hx hb hown k304 dX9_isTotal_3 ?_
  obtain ⟨r1, hr2, h⟩ := bd_of h
  refine wd_callS1 (As := [.long p0.toInt64, .long 0, .long 121]) hC hW (c_X9_in l D cy ad X T p0.toInt64 0 121 r1 hr2) (va_cwS 3 hts (gu_S w_7_6 w_7_4 w_7_5 w_1_5) rfl rfl rfl hdX9_in ⟨Nat.le_of_ble_eq_true rfl, Nat.le_of_ble_eq_true rfl⟩) rfl hl.1 rfl (Nat.le_of_ble_eq_true rfl) ⟨Nat.zero_le _, Nat.zero_le _⟩ dX9_isTotal_6 (fun H locs hW => ?_)
  obtain ⟨hb3, h⟩ := ckb_of h
  obtain rfl := Option.some.inj h
  exact wd_zret hA hQ hC hr hk hW (ckb_nar hb3) dX9_isTotal_9
def m_X9_failsToo (T : St) (p0 : Int32) (p1 : Int32) : Option (Int32) :=
  some (((p0.toInt64 * ((1000 - p1).toInt64)) / 1000).toInt32)
set_option maxHeartbeats 4000000 in
set_option maxRecDepth 100000 in
theorem c_X9_failsToo (l : Launch) (D : va_G) (cy : Nat → ClassId) (ad : Nat → Nat) (X : va_W) (T : St) (p0 : Int32) (p1 : Int32) (r : (Int32)) (h : m_X9_failsToo T p0 p1 = some r) : CT l yX9_failsToo (wu yX9_failsToo cX9_failsToo 2 (some .int)) 0 D cy [.int p0, .int p1] (wR ad cy T ++ X) (some (.int r)) (wR ad cy T ++ X) := by
  refine CT.mk (cc := cX9_failsToo) (maxL := 2) (ret := (some .int)) (own := RX9) (by decide) rfl rfl (Nat.le_of_ble_eq_true rfl) ?_
  intro p e s m args below meth c ls A Q hA hQ hC hr hk hW hl
  have hx := hC.1
  have hb := hC.2.1
  have hown := hC.2.2.2.1
  have hts := hC.2.2.2.2
  have hl : lv_has ls 2 [(0, .int p0), (1, .int p1)] := hl
  have k265 := hts _ (wu_in w_29_6)
  unfold m_X9_failsToo at h
  refine lv_iload_n hx hb dX9_failsToo_0 rfl (lv_at hl 0 rfl) ?_
  refine lv_i2l (v := p0.toInt64) hx hb dX9_failsToo_1 rfl ?_
  refine lv_sipush (v := 1000) hx hb dX9_failsToo_2 (by decide) ?_
  refine lv_iload_n hx hb dX9_failsToo_5 rfl (lv_at hl 1 rfl) ?_
  refine lv_isub hx hb dX9_failsToo_6 ?_
  refine lv_i2l (v := (1000 - p1).toInt64) hx hb dX9_failsToo_7 rfl ?_
  refine lv_lmul hx hb dX9_failsToo_8 ?_
  refine lv_ldc2 hx hb hown k265 dX9_failsToo_9 ?_
  refine lv_ldiv hx hb dX9_failsToo_12 (by decide) ?_
  refine lv_l2i (v := ((p0.toInt64 * ((1000 - p1).toInt64)) / 1000).toInt32) hx hb dX9_failsToo_13 rfl ?_
  obtain rfl := Option.some.inj h
  exact wd_iret hA hQ hC hr hk hW dX9_failsToo_14
def m_X9_opener_L51 : Nat → St → Int32 → Int32 → Int32 → Int32 → Int32 → Int32 → Option (Int32)
  | 0, _, _, _, _, _, _, _ => none
  | n + 1, T1, x1, x2, x3, x4, x5, x6 =>
    if 3 ≤ x6 then (some x5) else ((m_X9_oddsOf n T1 x1 x2 x4 x6).bind (fun r16 => (m_X9_failsToo T1 x5 r16).bind (fun r18 => m_X9_opener_L51 n T1 x1 x2 x3 x4 r18 (x6 + 1))))
theorem m_X9_opener_L51_0 (T1 : St) (x1 : Int32) (x2 : Int32) (x3 : Int32) (x4 : Int32) (x5 : Int32) (x6 : Int32) : m_X9_opener_L51 0 T1 x1 x2 x3 x4 x5 x6 = none := rfl
theorem m_X9_opener_L51_s {n : Nat} {T1 : St} {x1 : Int32} {x2 : Int32} {x3 : Int32} {x4 : Int32} {x5 : Int32} {x6 : Int32} : m_X9_opener_L51 (n + 1) T1 x1 x2 x3 x4 x5 x6 =
    (if 3 ≤ x6 then (some x5) else ((m_X9_oddsOf n T1 x1 x2 x4 x6).bind (fun r16 => (m_X9_failsToo T1 x5 r16).bind (fun r18 => m_X9_opener_L51 n T1 x1 x2 x3 x4 r18 (x6 + 1))))) := rfl
def m_X9_opener_L38 : Nat → St → Int32 → Int32 → Int32 → Int32 → Option (Int32 × St)
  | 0, _, _, _, _, _ => none
  | n + 1, T1, x1, x2, x3, x4 =>
    if x4 ≤ 0 then (some ((-2), T1)) else ((m_X9_opener_L51 n T1 x1 x2 x3 x4 1000000 0).bind (fun q13 => if x3 < q13 then (m_X9_opener_L38 n T1 x1 x2 x3 (x4 + (-1))) else (some (x4, T1))))
theorem m_X9_opener_L38_0 (T1 : St) (x1 : Int32) (x2 : Int32) (x3 : Int32) (x4 : Int32) : m_X9_opener_L38 0 T1 x1 x2 x3 x4 = none := rfl
theorem m_X9_opener_L38_s {n : Nat} {T1 : St} {x1 : Int32} {x2 : Int32} {x3 : Int32} {x4 : Int32} : m_X9_opener_L38 (n + 1) T1 x1 x2 x3 x4 =
    (if x4 ≤ 0 then (some ((-2), T1)) else ((m_X9_opener_L51 n T1 x1 x2 x3 x4 1000000 0).bind (fun q13 => if x3 < q13 then (m_X9_opener_L38 n T1 x1 x2 x3 (x4 + (-1))) else (some (x4, T1))))) := rfl
def m_X9_opener (n : Nat) (T : St) (p0 : Int32) (p1 : Int32) (p2 : Int32) : Option (Int32 × St) :=
  nm (sI T 0 0) (fun T1 => (m_X9_isLifter T1 p0).bind (fun r3 => if r3 = 0 then (some ((-1), T1)) else ((m_X9_isLift T1 p1).bind (fun r6 => if r6 = 0 then (some ((-1), T1)) else ((m_X9_in T1 p2.toInt64 0 1000000).bind (fun r9 => if r9 = 0 then (some ((-1), T1)) else (m_X9_opener_L38 n T1 p0 p1 p2 40)))))))
set_option maxHeartbeats 4000000 in
set_option maxRecDepth 100000 in
theorem c_X9_opener (l : Launch) (D : va_G) (cy : Nat → ClassId) (ad : Nat → Nat) (X : va_W) (n : Nat) (T : St) (p0 : Int32) (p1 : Int32) (p2 : Int32) (r : (Int32 × St)) (h : m_X9_opener n T p0 p1 p2 = some r) : CT l yX9_opener (wu yX9_opener cX9_opener 7 (some .int)) 2 D cy [.ref (ad 0), .int p0, .int p1, .int p2] (wR ad cy T ++ X) (some (.int r.1)) (wR ad cy r.2 ++ X) := by
  refine CT.mk (cc := cX9_opener) (maxL := 7) (ret := (some .int)) (own := RX9) (by decide) rfl rfl (Nat.le_of_ble_eq_true rfl) ?_
  intro p e s m args below meth c ls A Q hA hQ hC hr hk hW hl
  have hx := hC.1
  have hb := hC.2.1
  have hown := hC.2.2.2.1
  have hts := hC.2.2.2.2
  have hl : lv_has ls 7 [(0, .ref (ad 0)), (1, .int p0), (2, .int p1), (3, .int p2)] := hl
  have f77 := hts _ (wu_in w_6_14)
  have i9 := (fun w h => wu_in (inc_9 w h) : ∀ w ∈ u_ws RX9 TX9 40, w ∈ (wu yX9_opener cX9_opener 7 (some .int)))
  have k299 := hts _ (wu_in w_33_15)
  have k264 := hts _ (wu_in w_30_12)
  unfold m_X9_opener at h
  refine lv_aload_n hx hb dX9_opener_0 rfl (lv_at hl 0 rfl) ?_
  refine lv_iconst (v := 0) hx hb dX9_opener_1 (by decide) ?_
  refine wd_put hC i9 tyX9_ok nmX9 hW 0 wR_c0 rfl 0 (Nat.le_of_ble_eq_true rfl) f77 rfl rfl rfl rfl (Nat.le_of_ble_eq_true rfl) wR_s0_0 dX9_opener_2 (fun H locs hW => ?_)
  obtain ⟨T1, e2, h⟩ := nm_of h
  replace hW := wq_T e2 hW
  refine lv_aload_n hx hb dX9_opener_5 rfl (lv_at hl 0 rfl) ?_
  refine lv_iload_n hx hb dX9_opener_6 rfl (lv_at hl 1 rfl) ?_
  obtain ⟨r3, hr4, h⟩ := bd_of h
  refine wd_callV1 (As := [.int p0]) hC hW 0 wR_c0 rfl (c_X9_isLifter l D cy ad X T1 p0 r3 hr4) (cwV 1 hts (gu_V w_14_5 w_14_2 w_14_3 w_14_4 w_1_5) rfl rfl rfl hdX9_isLifter ⟨Nat.le_of_ble_eq_true rfl, Nat.le_of_ble_eq_true rfl⟩) rfl hl.1 rfl (Nat.le_of_ble_eq_true rfl) ⟨Nat.zero_le _, Nat.zero_le _⟩ dX9_opener_7 (fun H locs hW => ?_)
  refine lv_if_eq (tgt := 32) hx hb dX9_opener_10 (by decide) (fun c5 => ?_) (fun c5 => ?_)
  · replace h := ite_t h c5
    refine lv_iconst (v := (-1)) hx hb dX9_opener_32 (by decide) ?_
    obtain rfl := Option.some.inj h
    exact wd_iret hA hQ hC hr hk hW dX9_opener_33
  · replace h := ite_f h c5
    refine lv_iload_n hx hb dX9_opener_13 rfl (lv_at hl 2 rfl) ?_
    obtain ⟨r6, hr7, h⟩ := bd_of h
    refine wd_callS1 (As := [.int p1]) hC hW (c_X9_isLift l D cy ad X T1 p1 r6 hr7) (va_cwS 1 hts (gu_S w_14_8 w_14_6 w_14_7 w_1_5) rfl rfl rfl hdX9_isLift ⟨Nat.le_of_ble_eq_true rfl, Nat.le_of_ble_eq_true rfl⟩) rfl hl.1 rfl (Nat.le_of_ble_eq_true rfl) ⟨Nat.zero_le _, Nat.zero_le _⟩ dX9_opener_14 (fun H locs hW => ?_)
    refine lv_if_eq (tgt := 32) hx hb dX9_opener_17 (by decide) (fun c8 => ?_) (fun c8 => ?_)
    · replace h := ite_t h c8
      refine lv_iconst (v := (-1)) hx hb dX9_opener_32 (by decide) ?_
      obtain rfl := Option.some.inj h
      exact wd_iret hA hQ hC hr hk hW dX9_opener_33
    · replace h := ite_f h c8
      refine lv_iload_n hx hb dX9_opener_20 rfl (lv_at hl 3 rfl) ?_
      refine lv_i2l (v := p2.toInt64) hx hb dX9_opener_21 rfl ?_
      refine lv_lconst (v := 0) hx hb dX9_opener_22 (by decide) ?_
      refine lv_ldc2 hx hb hown k299 dX9_opener_23 ?_
      obtain ⟨r9, hr10, h⟩ := bd_of h
      refine wd_callS1 (As := [.long p2.toInt64, .long 0, .long 1000000]) hC hW (c_X9_in l D cy ad X T1 p2.toInt64 0 1000000 r9 hr10) (va_cwS 3 hts (gu_S w_7_6 w_7_4 w_7_5 w_1_5) rfl rfl rfl hdX9_in ⟨Nat.le_of_ble_eq_true rfl, Nat.le_of_ble_eq_true rfl⟩) rfl hl.1 rfl (Nat.le_of_ble_eq_true rfl) ⟨Nat.zero_le _, Nat.zero_le _⟩ dX9_opener_26 (fun H locs hW => ?_)
      refine lv_if_ne (tgt := 34) hx hb dX9_opener_29 (by decide) (fun c11 => ?_) (fun c11 => ?_)
      · replace h := ite_f h c11
        refine lv_bipush (v := 40) hx hb dX9_opener_34 (by decide) ?_
        refine lv_istore (lv' := [(4, .int 40), (0, .ref (ad 0)), (1, .int p0), (2, .int p1), (3, .int p2)]) hx hb dX9_opener_36 hl (by decide) rfl (fun ls hl => ?_)
        have hL38 : ∀ (n : Nat) (x1 : Int32) (x2 : Int32) (x3 : Int32) (x4 : Int32)  (H : Heap) (locs : List Loc) (ls : Array Slot), m_X9_opener_L38 n T1 x1 x2 x3 x4 = some r → Wd D cy A s (wR ad cy T1 ++ X) H locs → lv_has ls 7 [(0, .ref (ad 0)), (1, .int x1), (2, .int x2), (3, .int x3), (4, .int x4)] → W p l e (RM 2) s m args below meth c H locs 0 0 Q (F0 m 38 ls []) := by
          intro n
          induction n with
          | zero =>
            intro x1 x2 x3 x4  H locs ls h
            exact absurd (h.symm.trans (m_X9_opener_L38_0 ..)) (by simp)
          | succ n ih =>
            intro x1 x2 x3 x4  H locs ls h hW hl
            rw [m_X9_opener_L38_s] at h
            refine lv_iload hx hb dX9_opener_38 (lv_at hl 4 rfl) ?_
            refine lv_if_le (tgt := 95) hx hb dX9_opener_40 (by decide) (fun c12 => ?_) (fun c12 => ?_)
            · replace h := ite_t h c12
              refine lv_bipush (v := (-2)) hx hb dX9_opener_95 (by decide) ?_
              obtain rfl := Option.some.inj h
              exact wd_iret hA hQ hC hr hk hW dX9_opener_97
            · replace h := ite_f h c12
              refine lv_ldcw hx hb hown k264 dX9_opener_43 ?_
              refine lv_istore (lv' := [(5, .int 1000000), (0, .ref (ad 0)), (1, .int x1), (2, .int x2), (3, .int x3), (4, .int x4)]) hx hb dX9_opener_46 hl (by decide) rfl (fun ls hl => ?_)
              refine lv_iconst (v := 0) hx hb dX9_opener_48 (by decide) ?_
              refine lv_istore (lv' := [(6, .int 0), (5, .int 1000000), (0, .ref (ad 0)), (1, .int x1), (2, .int x2), (3, .int x3), (4, .int x4)]) hx hb dX9_opener_49 hl (by decide) rfl (fun ls hl => ?_)
              have hL51 : ∀ (n : Nat) (x1 : Int32) (x2 : Int32) (x3 : Int32) (x4 : Int32) (x5 : Int32) (x6 : Int32)  (H : Heap) (locs : List Loc) (ls : Array Slot) (r : (Int32)), m_X9_opener_L51 n T1 x1 x2 x3 x4 x5 x6 = some r → Wd D cy A s (wR ad cy T1 ++ X) H locs → lv_has ls 7 [(0, .ref (ad 0)), (1, .int x1), (2, .int x2), (3, .int x3), (4, .int x4), (5, .int x5), (6, .int x6)] → (∀ (H : Heap) (locs : List Loc) (ls : Array Slot), Wd D cy A s (wR ad cy T1 ++ X) H locs → lv_has ls 7 [(0, .ref (ad 0)), (1, .int x1), (2, .int x2), (3, .int x3), (4, .int x4), (5, .int r)] → W p l e (RM 2) s m args below meth c H locs 0 0 Q (F0 m 80 ls [])) → W p l e (RM 2) s m args below meth c H locs 0 0 Q (F0 m 51 ls []) := by
                intro n
                induction n with
                | zero =>
                  intro x1 x2 x3 x4 x5 x6  H locs ls r h
                  exact absurd (h.symm.trans (m_X9_opener_L51_0 ..)) (by simp)
                | succ n ih =>
                  intro x1 x2 x3 x4 x5 x6  H locs ls r h hW hl kk
                  rw [m_X9_opener_L51_s] at h
                  refine lv_iload hx hb dX9_opener_51 (lv_at hl 6 rfl) ?_
                  refine lv_iconst (v := 3) hx hb dX9_opener_53 (by decide) ?_
                  refine lv_icmp_ge (tgt := 80) hx hb dX9_opener_54 (by decide) (fun c15 => ?_) (fun c15 => ?_)
                  · replace h := ite_t h c15
                    obtain rfl := Option.some.inj h
                    exact kk _ _ _ hW (lv_sub hl [0, 1, 2, 3, 4, 5] rfl)
                  · replace h := ite_f h c15
                    refine lv_iload hx hb dX9_opener_57 (lv_at hl 5 rfl) ?_
                    refine lv_aload_n hx hb dX9_opener_59 rfl (lv_at hl 0 rfl) ?_
                    refine lv_iload_n hx hb dX9_opener_60 rfl (lv_at hl 1 rfl) ?_
                    refine lv_iload_n hx hb dX9_opener_61 rfl (lv_at hl 2 rfl) ?_
                    refine lv_iload hx hb dX9_opener_62 (lv_at hl 4 rfl) ?_
                    refine lv_iload hx hb dX9_opener_64 (lv_at hl 6 rfl) ?_
                    obtain ⟨r16, hr17, h⟩ := bd_of h
                    refine wd_callV1 (As := [.int x1, .int x2, .int x4, .int x6]) hC hW 0 wR_c0 rfl (c_X9_oddsOf l D cy ad X n T1 x1 x2 x4 x6 r16 hr17) (cwV 4 hts (gu_V w_15_23 w_15_20 w_15_21 w_15_22 w_1_5) rfl rfl rfl hdX9_oddsOf ⟨Nat.le_of_ble_eq_true rfl, Nat.le_of_ble_eq_true rfl⟩) rfl hl.1 rfl (Nat.le_of_ble_eq_true rfl) ⟨Nat.zero_le _, Nat.zero_le _⟩ dX9_opener_66 (fun H locs hW => ?_)
                    obtain ⟨r18, hr19, h⟩ := bd_of h
                    refine wd_callS1 (As := [.int x5, .int r16]) hC hW (c_X9_failsToo l D cy ad X T1 x5 r16 r18 hr19) (va_cwS 2 hts (gu_S w_34_6 w_34_4 w_34_5 w_1_5) rfl rfl rfl hdX9_failsToo ⟨Nat.le_of_ble_eq_true rfl, Nat.le_of_ble_eq_true rfl⟩) rfl hl.1 rfl (Nat.le_of_ble_eq_true rfl) ⟨Nat.zero_le _, Nat.zero_le _⟩ dX9_opener_69 (fun H locs hW => ?_)
                    refine lv_istore (lv' := [(5, .int r18), (0, .ref (ad 0)), (1, .int x1), (2, .int x2), (3, .int x3), (4, .int x4), (6, .int x6)]) hx hb dX9_opener_72 hl (by decide) rfl (fun ls hl => ?_)
                    refine lv_iinc (v := x6 + 1) (lv' := [(6, .int (x6 + 1)), (5, .int r18), (0, .ref (ad 0)), (1, .int x1), (2, .int x2), (3, .int x3), (4, .int x4)]) hx hb dX9_opener_74 hl (k := 6) rfl rfl (by decide) rfl (fun ls hl => ?_)
                    refine lv_goto (tgt := 51) hx hb dX9_opener_77 (by decide) ?_
                    exact ih x1 x2 x3 x4 r18 (x6 + 1) _ _ _ r h hW (lv_sub hl [2, 3, 4, 5, 6, 1, 0] rfl) kk
              obtain ⟨q13, hq14, h⟩ := bd_of h
              refine hL51 n x1 x2 x3 x4 1000000 0  _ _ _ q13 hq14 hW (lv_sub hl [2, 3, 4, 5, 6, 1, 0] rfl) (fun H locs ls hW hl => ?_)
              refine lv_iload hx hb dX9_opener_80 (lv_at hl 5 rfl) ?_
              refine lv_iload_n hx hb dX9_opener_82 rfl (lv_at hl 3 rfl) ?_
              refine lv_icmp_gt (tgt := 89) hx hb dX9_opener_83 (by decide) (fun c20 => ?_) (fun c20 => ?_)
              · replace h := ite_t h c20
                refine lv_iinc (v := x4 + (-1)) (lv' := [(4, .int (x4 + (-1))), (0, .ref (ad 0)), (1, .int x1), (2, .int x2), (3, .int x3), (5, .int q13)]) hx hb dX9_opener_89 hl (k := 4) rfl rfl (by decide) rfl (fun ls hl => ?_)
                refine lv_goto (tgt := 38) hx hb dX9_opener_92 (by decide) ?_
                exact ih x1 x2 x3 (x4 + (-1)) _ _ _ h hW (lv_sub hl [1, 2, 3, 4, 0] rfl)
              · replace h := ite_f h c20
                refine lv_iload hx hb dX9_opener_86 (lv_at hl 4 rfl) ?_
                obtain rfl := Option.some.inj h
                exact wd_iret hA hQ hC hr hk hW dX9_opener_88
        exact hL38 n p0 p1 p2 40  _ _ _ h hW (lv_sub hl [1, 2, 3, 4, 0] rfl)
      · replace h := ite_t h c11
        refine lv_iconst (v := (-1)) hx hb dX9_opener_32 (by decide) ?_
        obtain rfl := Option.some.inj h
        exact wd_iret hA hQ hC hr hk hW dX9_opener_33
def m_X9_cell (T : St) (p0 : Int32) (p1 : Int32) (p2 : Int32) (p3 : Int32) : Option (Int32) :=
  some ((42 * ((42 * ((4 * p0) + p1)) + p2)) + p3)
set_option maxHeartbeats 4000000 in
set_option maxRecDepth 100000 in
theorem c_X9_cell (l : Launch) (D : va_G) (cy : Nat → ClassId) (ad : Nat → Nat) (X : va_W) (T : St) (p0 : Int32) (p1 : Int32) (p2 : Int32) (p3 : Int32) (r : (Int32)) (h : m_X9_cell T p0 p1 p2 p3 = some r) : CT l yX9_cell (wu yX9_cell cX9_cell 4 (some .int)) 0 D cy [.int p0, .int p1, .int p2, .int p3] (wR ad cy T ++ X) (some (.int r)) (wR ad cy T ++ X) := by
  refine CT.mk (cc := cX9_cell) (maxL := 4) (ret := (some .int)) (own := RX9) (by decide) rfl rfl (Nat.le_of_ble_eq_true rfl) ?_
  intro p e s m args below meth c ls A Q hA hQ hC hr hk hW hl
  have hx := hC.1
  have hb := hC.2.1
  have hown := hC.2.2.2.1
  have hts := hC.2.2.2.2
  have hl : lv_has ls 4 [(0, .int p0), (1, .int p1), (2, .int p2), (3, .int p3)] := hl
  unfold m_X9_cell at h
  refine lv_bipush (v := 42) hx hb dX9_cell_0 (by decide) ?_
  refine lv_bipush (v := 42) hx hb dX9_cell_2 (by decide) ?_
  refine lv_iconst (v := 4) hx hb dX9_cell_4 (by decide) ?_
  refine lv_iload_n hx hb dX9_cell_5 rfl (lv_at hl 0 rfl) ?_
  refine lv_imul hx hb dX9_cell_6 ?_
  refine lv_iload_n hx hb dX9_cell_7 rfl (lv_at hl 1 rfl) ?_
  refine lv_iadd hx hb dX9_cell_8 ?_
  refine lv_imul hx hb dX9_cell_9 ?_
  refine lv_iload_n hx hb dX9_cell_10 rfl (lv_at hl 2 rfl) ?_
  refine lv_iadd hx hb dX9_cell_11 ?_
  refine lv_imul hx hb dX9_cell_12 ?_
  refine lv_iload_n hx hb dX9_cell_13 rfl (lv_at hl 3 rfl) ?_
  refine lv_iadd hx hb dX9_cell_14 ?_
  obtain rfl := Option.some.inj h
  exact wd_iret hA hQ hC hr hk hW dX9_cell_15
def m_X9_triesBest_L12 : Nat → St → Int32 → Int32 → Int32 → Int32 → Int32 → Int32 → Int32 → Option (St × Int32)
  | 0, _, _, _, _, _, _, _, _ => none
  | n + 1, T, x1, x2, x3, x4, x6, x7, x8 =>
    if 40 < x8 then (some (T, x7)) else ((m_X9_cell T (x3 + 1) x4 (mn 41 (x8 + 1)) x8).bind (fun r6 => ck r6 28224 ((m_X9_cell T (x3 + 1) (x4 + 1) x8 x6).bind (fun r9 => ck r9 28224 ((m_X9_oddsOf n T x1 x2 x8 x4).bind (fun r12 => (m_X9_expected T r12 (T.2.1 32 r6.toNatClampNeg) (T.2.1 32 r9.toNatClampNeg)).bind (fun r14 => if x7 < r14 then (nm (sI T 33 x8) (fun T17 => m_X9_triesBest_L12 n T17 x1 x2 x3 x4 x6 r14 (x8 + 1))) else (m_X9_triesBest_L12 n T x1 x2 x3 x4 x6 x7 (x8 + 1)))))))))
theorem m_X9_triesBest_L12_0 (T : St) (x1 : Int32) (x2 : Int32) (x3 : Int32) (x4 : Int32) (x6 : Int32) (x7 : Int32) (x8 : Int32) : m_X9_triesBest_L12 0 T x1 x2 x3 x4 x6 x7 x8 = none := rfl
theorem m_X9_triesBest_L12_s {n : Nat} {T : St} {x1 : Int32} {x2 : Int32} {x3 : Int32} {x4 : Int32} {x6 : Int32} {x7 : Int32} {x8 : Int32} : m_X9_triesBest_L12 (n + 1) T x1 x2 x3 x4 x6 x7 x8 =
    (if 40 < x8 then (some (T, x7)) else ((m_X9_cell T (x3 + 1) x4 (mn 41 (x8 + 1)) x8).bind (fun r6 => ck r6 28224 ((m_X9_cell T (x3 + 1) (x4 + 1) x8 x6).bind (fun r9 => ck r9 28224 ((m_X9_oddsOf n T x1 x2 x8 x4).bind (fun r12 => (m_X9_expected T r12 (T.2.1 32 r6.toNatClampNeg) (T.2.1 32 r9.toNatClampNeg)).bind (fun r14 => if x7 < r14 then (nm (sI T 33 x8) (fun T17 => m_X9_triesBest_L12 n T17 x1 x2 x3 x4 x6 r14 (x8 + 1))) else (m_X9_triesBest_L12 n T x1 x2 x3 x4 x6 x7 (x8 + 1)))))))))) := rfl
def m_X9_triesBest (n : Nat) (T : St) (p0 : Int32) (p1 : Int32) (p2 : Int32) (p3 : Int32) (p4 : Int32) (p5 : Int32) : Option (Int32 × St) :=
  nm (sI T 33 0) (fun T1 => (m_X9_triesBest_L12 n T1 p0 p1 p2 p3 p5 (-1) p4).bind (fun q3 => some (q3.2, q3.1)))
set_option maxHeartbeats 4000000 in
set_option maxRecDepth 100000 in
theorem c_X9_triesBest (l : Launch) (D : va_G) (cy : Nat → ClassId) (ad : Nat → Nat) (X : va_W) (n : Nat) (T : St) (p0 : Int32) (p1 : Int32) (p2 : Int32) (p3 : Int32) (p4 : Int32) (p5 : Int32) (r : (Int32 × St)) (h : m_X9_triesBest n T p0 p1 p2 p3 p4 p5 = some r) : CT l yX9_triesBest (wu yX9_triesBest cX9_triesBest 12 (some .int)) 2 D cy [.ref (ad 0), .int p0, .int p1, .int p2, .int p3, .int p4, .int p5] (wR ad cy T ++ X) (some (.int r.1)) (wR ad cy r.2 ++ X) := by
  refine CT.mk (cc := cX9_triesBest) (maxL := 12) (ret := (some .int)) (own := RX9) (by decide) rfl rfl (Nat.le_of_ble_eq_true rfl) ?_
  intro p e s m args below meth c ls A Q hA hQ hC hr hk hW hl
  have hx := hC.1
  have hb := hC.2.1
  have hown := hC.2.2.2.1
  have hts := hC.2.2.2.2
  have hl : lv_has ls 12 [(0, .ref (ad 0)), (1, .int p0), (2, .int p1), (3, .int p2), (4, .int p3), (5, .int p4), (6, .int p5)] := hl
  have f322 := hts _ (wu_in w_39_4)
  have i9 := (fun w h => wu_in (inc_9 w h) : ∀ w ∈ u_ws RX9 TX9 40, w ∈ (wu yX9_triesBest cX9_triesBest 12 (some .int)))
  have f68 := hts _ (wu_in w_5_22)
  have ml325 := hts _ (wu_in w_40_0)
  have msmin := hts _ (wu_in w_40_1)
  have mi := hts _ (wu_in w_15_14)
  have mcmin := hts _ (wu_in w_40_2)
  unfold m_X9_triesBest at h
  refine lv_aload_n hx hb dX9_triesBest_0 rfl (lv_at hl 0 rfl) ?_
  refine lv_iconst (v := 0) hx hb dX9_triesBest_1 (by decide) ?_
  refine wd_put hC i9 tyX9_ok nmX9 hW 0 wR_c0 rfl 33 (Nat.le_of_ble_eq_true rfl) f322 rfl rfl rfl rfl (Nat.le_of_ble_eq_true rfl) wR_s0_33 dX9_triesBest_2 (fun H locs hW => ?_)
  obtain ⟨T1, e2, h⟩ := nm_of h
  replace hW := wq_T e2 hW
  refine lv_iconst (v := (-1)) hx hb dX9_triesBest_5 (by decide) ?_
  refine lv_istore (lv' := [(7, .int (-1)), (0, .ref (ad 0)), (1, .int p0), (2, .int p1), (3, .int p2), (4, .int p3), (5, .int p4), (6, .int p5)]) hx hb dX9_triesBest_6 hl (by decide) rfl (fun ls hl => ?_)
  refine lv_iload hx hb dX9_triesBest_8 (lv_at hl 6 rfl) ?_
  refine lv_istore (lv' := [(8, .int p4), (7, .int (-1)), (0, .ref (ad 0)), (1, .int p0), (2, .int p1), (3, .int p2), (4, .int p3), (5, .int p4), (6, .int p5)]) hx hb dX9_triesBest_10 hl (by decide) rfl (fun ls hl => ?_)
  have hL12 : ∀ (n : Nat) (T : St) (x1 : Int32) (x2 : Int32) (x3 : Int32) (x4 : Int32) (x6 : Int32) (x7 : Int32) (x8 : Int32)  (H : Heap) (locs : List Loc) (ls : Array Slot) (r : (St × Int32)), m_X9_triesBest_L12 n T x1 x2 x3 x4 x6 x7 x8 = some r → Wd D cy A s (wR ad cy T ++ X) H locs → lv_has ls 12 [(0, .ref (ad 0)), (1, .int x1), (2, .int x2), (3, .int x3), (4, .int x4), (6, .int x6), (7, .int x7), (8, .int x8)] → (∀ (H : Heap) (locs : List Loc) (ls : Array Slot), Wd D cy A s (wR ad cy r.1 ++ X) H locs → lv_has ls 12 [(0, .ref (ad 0)), (1, .int x1), (2, .int x2), (3, .int x3), (4, .int x4), (6, .int x6), (7, .int r.2)] → W p l e (RM 2) s m args below meth c H locs 0 0 Q (F0 m 111 ls [])) → W p l e (RM 2) s m args below meth c H locs 0 0 Q (F0 m 12 ls []) := by
    intro n
    induction n with
    | zero =>
      intro T x1 x2 x3 x4 x6 x7 x8  H locs ls r h
      exact absurd (h.symm.trans (m_X9_triesBest_L12_0 ..)) (by simp)
    | succ n ih =>
      intro T x1 x2 x3 x4 x6 x7 x8  H locs ls r h hW hl kk
      rw [m_X9_triesBest_L12_s] at h
      refine lv_iload hx hb dX9_triesBest_12 (lv_at hl 7 rfl) ?_
      refine lv_bipush (v := 40) hx hb dX9_triesBest_14 (by decide) ?_
      refine lv_icmp_gt (tgt := 111) hx hb dX9_triesBest_16 (by decide) (fun c5 => ?_) (fun c5 => ?_)
      · replace h := ite_t h c5
        obtain rfl := Option.some.inj h
        exact kk _ _ _ hW (lv_sub hl [0, 1, 2, 3, 4, 5, 6] rfl)
      · replace h := ite_f h c5
        refine lv_aload_n hx hb dX9_triesBest_19 rfl (lv_at hl 0 rfl) ?_
        refine wd_get hC i9 hW 0 wR_c0 rfl 32 (Nat.le_of_ble_eq_true rfl) f68 rfl rfl dX9_triesBest_20 ?_
        refine lv_iload_n hx hb dX9_triesBest_23 rfl (lv_at hl 3 rfl) ?_
        refine lv_iconst (v := 1) hx hb dX9_triesBest_24 (by decide) ?_
        refine lv_iadd hx hb dX9_triesBest_25 ?_
        refine lv_iload hx hb dX9_triesBest_26 (lv_at hl 4 rfl) ?_
        refine lv_bipush (v := 41) hx hb dX9_triesBest_28 (by decide) ?_
        refine lv_iload hx hb dX9_triesBest_30 (lv_at hl 7 rfl) ?_
        refine lv_iconst (v := 1) hx hb dX9_triesBest_32 (by decide) ?_
        refine lv_iadd hx hb dX9_triesBest_33 ?_
        refine wd_min hC hl.1 ml325 msmin mi mcmin (Nat.le_of_ble_eq_true rfl) (Nat.le_of_ble_eq_true rfl) (Nat.zero_le _) (Nat.zero_le _) dX9_triesBest_34 ?_
        refine lv_iload hx hb dX9_triesBest_37 (lv_at hl 7 rfl) ?_
        obtain ⟨r6, hr7, h⟩ := bd_of h
        refine wd_callS1 (As := [.int (x3 + 1), .int x4, .int (mn 41 (x8 + 1)), .int x8]) hC hW (c_X9_cell l D cy ad X T (x3 + 1) x4 (mn 41 (x8 + 1)) x8 r6 hr7) (va_cwS 4 hts (gu_S w_40_5 w_40_3 w_40_4 w_1_5) rfl rfl rfl hdX9_cell ⟨Nat.le_of_ble_eq_true rfl, Nat.le_of_ble_eq_true rfl⟩) rfl hl.1 rfl (Nat.le_of_ble_eq_true rfl) ⟨Nat.zero_le _, Nat.zero_le _⟩ dX9_triesBest_39 (fun H locs hW => ?_)
        obtain ⟨hi8, h⟩ := ck_of h
        refine wd_iald hC hW 20 wR_c20 hi8 dX9_triesBest_42 ?_
        refine lv_istore (lv' := [(9, .int (T.2.1 32 r6.toNatClampNeg)), (0, .ref (ad 0)), (1, .int x1), (2, .int x2), (3, .int x3), (4, .int x4), (6, .int x6), (7, .int x7), (8, .int x8)]) hx hb dX9_triesBest_43 hl (by decide) rfl (fun ls hl => ?_)
        refine lv_aload_n hx hb dX9_triesBest_45 rfl (lv_at hl 1 rfl) ?_
        refine wd_get hC i9 hW 0 wR_c0 rfl 32 (Nat.le_of_ble_eq_true rfl) f68 rfl rfl dX9_triesBest_46 ?_
        refine lv_iload_n hx hb dX9_triesBest_49 rfl (lv_at hl 4 rfl) ?_
        refine lv_iconst (v := 1) hx hb dX9_triesBest_50 (by decide) ?_
        refine lv_iadd hx hb dX9_triesBest_51 ?_
        refine lv_iload hx hb dX9_triesBest_52 (lv_at hl 5 rfl) ?_
        refine lv_iconst (v := 1) hx hb dX9_triesBest_54 (by decide) ?_
        refine lv_iadd hx hb dX9_triesBest_55 ?_
        refine lv_iload hx hb dX9_triesBest_56 (lv_at hl 8 rfl) ?_
        refine lv_iload hx hb dX9_triesBest_58 (lv_at hl 6 rfl) ?_
        obtain ⟨r9, hr10, h⟩ := bd_of h
        refine wd_callS1 (As := [.int (x3 + 1), .int (x4 + 1), .int x8, .int x6]) hC hW (c_X9_cell l D cy ad X T (x3 + 1) (x4 + 1) x8 x6 r9 hr10) (va_cwS 4 hts (gu_S w_40_5 w_40_3 w_40_4 w_1_5) rfl rfl rfl hdX9_cell ⟨Nat.le_of_ble_eq_true rfl, Nat.le_of_ble_eq_true rfl⟩) rfl hl.1 rfl (Nat.le_of_ble_eq_true rfl) ⟨Nat.zero_le _, Nat.zero_le _⟩ dX9_triesBest_60 (fun H locs hW => ?_)
        obtain ⟨hi11, h⟩ := ck_of h
        refine wd_iald hC hW 20 wR_c20 hi11 dX9_triesBest_63 ?_
        refine lv_istore (lv' := [(10, .int (T.2.1 32 r9.toNatClampNeg)), (9, .int (T.2.1 32 r6.toNatClampNeg)), (0, .ref (ad 0)), (1, .int x1), (2, .int x2), (3, .int x3), (4, .int x4), (6, .int x6), (7, .int x7), (8, .int x8)]) hx hb dX9_triesBest_64 hl (by decide) rfl (fun ls hl => ?_)
        refine lv_aload_n hx hb dX9_triesBest_66 rfl (lv_at hl 2 rfl) ?_
        refine lv_iload_n hx hb dX9_triesBest_67 rfl (lv_at hl 3 rfl) ?_
        refine lv_iload_n hx hb dX9_triesBest_68 rfl (lv_at hl 4 rfl) ?_
        refine lv_iload hx hb dX9_triesBest_69 (lv_at hl 9 rfl) ?_
        refine lv_iload hx hb dX9_triesBest_71 (lv_at hl 6 rfl) ?_
        obtain ⟨r12, hr13, h⟩ := bd_of h
        refine wd_callV1 (As := [.int x1, .int x2, .int x8, .int x4]) hC hW 0 wR_c0 rfl (c_X9_oddsOf l D cy ad X n T x1 x2 x8 x4 r12 hr13) (cwV 4 hts (gu_V w_15_23 w_15_20 w_15_21 w_15_22 w_1_5) rfl rfl rfl hdX9_oddsOf ⟨Nat.le_of_ble_eq_true rfl, Nat.le_of_ble_eq_true rfl⟩) rfl hl.1 rfl (Nat.le_of_ble_eq_true rfl) ⟨Nat.zero_le _, Nat.zero_le _⟩ dX9_triesBest_73 (fun H locs hW => ?_)
        refine lv_iload hx hb dX9_triesBest_76 (lv_at hl 1 rfl) ?_
        refine lv_iload hx hb dX9_triesBest_78 (lv_at hl 0 rfl) ?_
        obtain ⟨r14, hr15, h⟩ := bd_of h
        refine wd_callS1 (As := [.int r12, .int (T.2.1 32 r6.toNatClampNeg), .int (T.2.1 32 r9.toNatClampNeg)]) hC hW (c_X9_expected l D cy ad X T r12 (T.2.1 32 r6.toNatClampNeg) (T.2.1 32 r9.toNatClampNeg) r14 hr15) (va_cwS 3 hts (gu_S w_29_5 w_29_3 w_29_4 w_1_5) rfl rfl rfl hdX9_expected ⟨Nat.le_of_ble_eq_true rfl, Nat.le_of_ble_eq_true rfl⟩) rfl hl.1 rfl (Nat.le_of_ble_eq_true rfl) ⟨Nat.zero_le _, Nat.zero_le _⟩ dX9_triesBest_80 (fun H locs hW => ?_)
        refine lv_istore (lv' := [(11, .int r14), (10, .int (T.2.1 32 r9.toNatClampNeg)), (9, .int (T.2.1 32 r6.toNatClampNeg)), (0, .ref (ad 0)), (1, .int x1), (2, .int x2), (3, .int x3), (4, .int x4), (6, .int x6), (7, .int x7), (8, .int x8)]) hx hb dX9_triesBest_83 hl (by decide) rfl (fun ls hl => ?_)
        refine lv_iload hx hb dX9_triesBest_85 (lv_at hl 0 rfl) ?_
        refine lv_iload hx hb dX9_triesBest_87 (lv_at hl 9 rfl) ?_
        refine lv_icmp_gt (tgt := 95) hx hb dX9_triesBest_89 (by decide) (fun c16 => ?_) (fun c16 => ?_)
        · replace h := ite_t h c16
          refine lv_iload hx hb dX9_triesBest_95 (lv_at hl 0 rfl) ?_
          refine lv_istore (lv' := [(7, .int r14), (11, .int r14), (10, .int (T.2.1 32 r9.toNatClampNeg)), (9, .int (T.2.1 32 r6.toNatClampNeg)), (0, .ref (ad 0)), (1, .int x1), (2, .int x2), (3, .int x3), (4, .int x4), (6, .int x6), (8, .int x8)]) hx hb dX9_triesBest_97 hl (by decide) rfl (fun ls hl => ?_)
          refine lv_aload_n hx hb dX9_triesBest_99 rfl (lv_at hl 4 rfl) ?_
          refine lv_iload hx hb dX9_triesBest_100 (lv_at hl 10 rfl) ?_
          refine wd_put hC i9 tyX9_ok nmX9 hW 0 wR_c0 rfl 33 (Nat.le_of_ble_eq_true rfl) f322 rfl rfl rfl rfl (Nat.le_of_ble_eq_true rfl) wR_s0_33 dX9_triesBest_102 (fun H locs hW => ?_)
          obtain ⟨T17, e18, h⟩ := nm_of h
          replace hW := wq_T e18 hW
          refine lv_iinc (v := x8 + 1) (lv' := [(8, .int (x8 + 1)), (7, .int r14), (11, .int r14), (10, .int (T.2.1 32 r9.toNatClampNeg)), (9, .int (T.2.1 32 r6.toNatClampNeg)), (0, .ref (ad 0)), (1, .int x1), (2, .int x2), (3, .int x3), (4, .int x4), (6, .int x6)]) hx hb dX9_triesBest_105 hl (k := 10) rfl rfl (by decide) rfl (fun ls hl => ?_)
          refine lv_goto (tgt := 12) hx hb dX9_triesBest_108 (by decide) ?_
          exact ih T17 x1 x2 x3 x4 x6 r14 (x8 + 1) _ _ _ r h hW (lv_sub hl [5, 6, 7, 8, 9, 10, 1, 0] rfl) kk
        · replace h := ite_f h c16
          refine lv_goto (tgt := 105) hx hb dX9_triesBest_92 (by decide) ?_
          refine lv_iinc (v := x8 + 1) (lv' := [(8, .int (x8 + 1)), (11, .int r14), (10, .int (T.2.1 32 r9.toNatClampNeg)), (9, .int (T.2.1 32 r6.toNatClampNeg)), (0, .ref (ad 0)), (1, .int x1), (2, .int x2), (3, .int x3), (4, .int x4), (6, .int x6), (7, .int x7)]) hx hb dX9_triesBest_105 hl (k := 10) rfl rfl (by decide) rfl (fun ls hl => ?_)
          refine lv_goto (tgt := 12) hx hb dX9_triesBest_108 (by decide) ?_
          exact ih T x1 x2 x3 x4 x6 x7 (x8 + 1) _ _ _ r h hW (lv_sub hl [4, 5, 6, 7, 8, 9, 10, 0] rfl) kk
  obtain ⟨q3, hq4, h⟩ := bd_of h
  refine hL12 n T1 p0 p1 p2 p3 p5 (-1) p4  _ _ _ q3 hq4 hW (lv_sub hl [2, 3, 4, 5, 6, 8, 1, 0] rfl) (fun H locs ls hW hl => ?_)
  refine lv_iload hx hb dX9_triesBest_111 (lv_at hl 6 rfl) ?_
  obtain rfl := Option.some.inj h
  exact wd_iret hA hQ hC hr hk hW dX9_triesBest_113
def m_X9_ends (T : St) (p0 : Int32) (p1 : Int32) (p2 : Int32) : Option (Int32) :=
  if p1 = 0 then (ck 0 122 (some (T.2.1 28 ((0 : Int32).toNatClampNeg)))) else (ck (((121 * (p0 + 1)) + p2) + p1) 484 (some (T.2.1 31 (((121 * (p0 + 1)) + p2) + p1).toNatClampNeg)))
set_option maxHeartbeats 4000000 in
set_option maxRecDepth 100000 in
theorem c_X9_ends (l : Launch) (D : va_G) (cy : Nat → ClassId) (ad : Nat → Nat) (X : va_W) (T : St) (p0 : Int32) (p1 : Int32) (p2 : Int32) (r : (Int32)) (h : m_X9_ends T p0 p1 p2 = some r) : CT l yX9_ends (wu yX9_ends cX9_ends 4 (some .int)) 0 D cy [.ref (ad 0), .int p0, .int p1, .int p2] (wR ad cy T ++ X) (some (.int r)) (wR ad cy T ++ X) := by
  refine CT.mk (cc := cX9_ends) (maxL := 4) (ret := (some .int)) (own := RX9) (by decide) rfl rfl (Nat.le_of_ble_eq_true rfl) ?_
  intro p e s m args below meth c ls A Q hA hQ hC hr hk hW hl
  have hx := hC.1
  have hb := hC.2.1
  have hown := hC.2.2.2.1
  have hts := hC.2.2.2.2
  have hl : lv_has ls 4 [(0, .ref (ad 0)), (1, .int p0), (2, .int p1), (3, .int p2)] := hl
  have f65 := hts _ (wu_in w_5_21)
  have i9 := (fun w h => wu_in (inc_9 w h) : ∀ w ∈ u_ws RX9 TX9 40, w ∈ (wu yX9_ends cX9_ends 4 (some .int)))
  have f56 := hts _ (wu_in w_5_18)
  unfold m_X9_ends at h
  refine lv_iload_n hx hb dX9_ends_0 rfl (lv_at hl 2 rfl) ?_
  refine lv_if_ne (tgt := 13) hx hb dX9_ends_1 (by decide) (fun c1 => ?_) (fun c1 => ?_)
  · replace h := ite_f h c1
    refine lv_aload_n hx hb dX9_ends_13 rfl (lv_at hl 0 rfl) ?_
    refine wd_get hC i9 hW 0 wR_c0 rfl 31 (Nat.le_of_ble_eq_true rfl) f65 rfl rfl dX9_ends_14 ?_
    refine lv_bipush (v := 121) hx hb dX9_ends_17 (by decide) ?_
    refine lv_iload_n hx hb dX9_ends_19 rfl (lv_at hl 1 rfl) ?_
    refine lv_iconst (v := 1) hx hb dX9_ends_20 (by decide) ?_
    refine lv_iadd hx hb dX9_ends_21 ?_
    refine lv_imul hx hb dX9_ends_22 ?_
    refine lv_iload_n hx hb dX9_ends_23 rfl (lv_at hl 3 rfl) ?_
    refine lv_iadd hx hb dX9_ends_24 ?_
    refine lv_iload_n hx hb dX9_ends_25 rfl (lv_at hl 2 rfl) ?_
    refine lv_iadd hx hb dX9_ends_26 ?_
    obtain ⟨hi2, h⟩ := ck_of h
    refine wd_iald hC hW 19 wR_c19 hi2 dX9_ends_27 ?_
    obtain rfl := Option.some.inj h
    exact wd_iret hA hQ hC hr hk hW dX9_ends_28
  · replace h := ite_t h c1
    refine lv_aload_n hx hb dX9_ends_4 rfl (lv_at hl 0 rfl) ?_
    refine wd_get hC i9 hW 0 wR_c0 rfl 28 (Nat.le_of_ble_eq_true rfl) f56 rfl rfl dX9_ends_5 ?_
    refine lv_iconst (v := 0) hx hb dX9_ends_8 (by decide) ?_
    obtain ⟨hi3, h⟩ := ck_of h
    refine wd_iald hC hW 16 wR_c16 hi3 dX9_ends_9 ?_
    refine lv_goto (tgt := 28) hx hb dX9_ends_10 (by decide) ?_
    obtain rfl := Option.some.inj h
    exact wd_iret hA hQ hC hr hk hW dX9_ends_28
def m_X9_canBe (T : St) (p0 : Int32) (p1 : Int32) (p2 : Int32) (p3 : Int32) : Option (Int32) :=
  if p1 = 0 then (if p3 = (p2 - 1) then (some 1) else (some 0)) else (if p1 < p0 then (some 1) else (if p3 = 0 then (some 1) else (some 0)))
set_option maxHeartbeats 4000000 in
set_option maxRecDepth 100000 in
theorem c_X9_canBe (l : Launch) (D : va_G) (cy : Nat → ClassId) (ad : Nat → Nat) (X : va_W) (T : St) (p0 : Int32) (p1 : Int32) (p2 : Int32) (p3 : Int32) (r : (Int32)) (h : m_X9_canBe T p0 p1 p2 p3 = some r) : CT l yX9_canBe (wu yX9_canBe cX9_canBe 4 (some .boolean)) 0 D cy [.int p0, .int p1, .int p2, .int p3] (wR ad cy T ++ X) (some (.int r)) (wR ad cy T ++ X) := by
  refine CT.mk (cc := cX9_canBe) (maxL := 4) (ret := (some .boolean)) (own := RX9) (by decide) rfl rfl (Nat.le_of_ble_eq_true rfl) ?_
  intro p e s m args below meth c ls A Q hA hQ hC hr hk hW hl
  have hx := hC.1
  have hb := hC.2.1
  have hown := hC.2.2.2.1
  have hts := hC.2.2.2.2
  have hl : lv_has ls 4 [(0, .int p0), (1, .int p1), (2, .int p2), (3, .int p3)] := hl
  unfold m_X9_canBe at h
  refine lv_iload_n hx hb dX9_canBe_0 rfl (lv_at hl 1 rfl) ?_
  refine lv_if_ne (tgt := 19) hx hb dX9_canBe_1 (by decide) (fun c1 => ?_) (fun c1 => ?_)
  · replace h := ite_f h c1
    refine lv_iload_n hx hb dX9_canBe_19 rfl (lv_at hl 1 rfl) ?_
    refine lv_iload_n hx hb dX9_canBe_20 rfl (lv_at hl 0 rfl) ?_
    refine lv_icmp_lt (tgt := 28) hx hb dX9_canBe_21 (by decide) (fun c2 => ?_) (fun c2 => ?_)
    · replace h := ite_t h c2
      refine lv_iconst (v := 1) hx hb dX9_canBe_28 (by decide) ?_
      refine lv_goto (tgt := 33) hx hb dX9_canBe_29 (by decide) ?_
      obtain rfl := Option.some.inj h
      exact wd_zret hA hQ hC hr hk hW rfl dX9_canBe_33
    · replace h := ite_f h c2
      refine lv_iload_n hx hb dX9_canBe_24 rfl (lv_at hl 3 rfl) ?_
      refine lv_if_ne (tgt := 32) hx hb dX9_canBe_25 (by decide) (fun c3 => ?_) (fun c3 => ?_)
      · replace h := ite_f h c3
        refine lv_iconst (v := 0) hx hb dX9_canBe_32 (by decide) ?_
        obtain rfl := Option.some.inj h
        exact wd_zret hA hQ hC hr hk hW rfl dX9_canBe_33
      · replace h := ite_t h c3
        refine lv_iconst (v := 1) hx hb dX9_canBe_28 (by decide) ?_
        refine lv_goto (tgt := 33) hx hb dX9_canBe_29 (by decide) ?_
        obtain rfl := Option.some.inj h
        exact wd_zret hA hQ hC hr hk hW rfl dX9_canBe_33
  · replace h := ite_t h c1
    refine lv_iload_n hx hb dX9_canBe_4 rfl (lv_at hl 3 rfl) ?_
    refine lv_iload_n hx hb dX9_canBe_5 rfl (lv_at hl 2 rfl) ?_
    refine lv_iconst (v := 1) hx hb dX9_canBe_6 (by decide) ?_
    refine lv_isub hx hb dX9_canBe_7 ?_
    refine lv_icmp_ne (tgt := 15) hx hb dX9_canBe_8 (by decide) (fun c4 => ?_) (fun c4 => ?_)
    · replace h := ite_f h c4
      refine lv_iconst (v := 0) hx hb dX9_canBe_15 (by decide) ?_
      refine lv_goto (tgt := 33) hx hb dX9_canBe_16 (by decide) ?_
      obtain rfl := Option.some.inj h
      exact wd_zret hA hQ hC hr hk hW rfl dX9_canBe_33
    · replace h := ite_t h c4
      refine lv_iconst (v := 1) hx hb dX9_canBe_11 (by decide) ?_
      refine lv_goto (tgt := 33) hx hb dX9_canBe_12 (by decide) ?_
      obtain rfl := Option.some.inj h
      exact wd_zret hA hQ hC hr hk hW rfl dX9_canBe_33
def m_X9_laysRounds_L32 : Nat → St → Int32 → Int32 → Int32 → Int32 → Int32 → Int32 → Int32 → Int32 → Option (St)
  | 0, _, _, _, _, _, _, _, _, _ => none
  | n + 1, T, x1, x2, x3, x4, x5, x6, x7, x8 =>
    if x7 ≤ x8 then (some T) else ((m_X9_canBe T x5 x6 x7 x8).bind (fun r13 => if r13 = 0 then (m_X9_laysRounds_L32 n T x1 x2 x3 x4 x5 x6 x7 (x8 + 1)) else (((if x5 = 3 then ((m_X9_ends T x2 x8 x4).bind (fun r24 => some (T, r24))) else (if x7 ≤ 40 then ((m_X9_triesBest n T x1 x2 x5 x6 x7 x8).bind (fun r27 => some (r27.2, r27.1))) else ((m_X9_ends T x2 x8 x4).bind (fun r29 => some (T, r29)))) : Option (St × Int32))).bind (fun q17 => (m_X9_cell q17.1 x5 x6 x7 x8).bind (fun r19 => ck r19 28224 (nm (sA q17.1 32 r19.toNatClampNeg q17.2) (fun T22 => m_X9_laysRounds_L32 n T22 x1 x2 x3 x4 x5 x6 x7 (x8 + 1))))))))
theorem m_X9_laysRounds_L32_0 (T : St) (x1 : Int32) (x2 : Int32) (x3 : Int32) (x4 : Int32) (x5 : Int32) (x6 : Int32) (x7 : Int32) (x8 : Int32) : m_X9_laysRounds_L32 0 T x1 x2 x3 x4 x5 x6 x7 x8 = none := rfl
theorem m_X9_laysRounds_L32_s {n : Nat} {T : St} {x1 : Int32} {x2 : Int32} {x3 : Int32} {x4 : Int32} {x5 : Int32} {x6 : Int32} {x7 : Int32} {x8 : Int32} : m_X9_laysRounds_L32 (n + 1) T x1 x2 x3 x4 x5 x6 x7 x8 =
    (if x7 ≤ x8 then (some T) else ((m_X9_canBe T x5 x6 x7 x8).bind (fun r13 => if r13 = 0 then (m_X9_laysRounds_L32 n T x1 x2 x3 x4 x5 x6 x7 (x8 + 1)) else (((if x5 = 3 then ((m_X9_ends T x2 x8 x4).bind (fun r24 => some (T, r24))) else (if x7 ≤ 40 then ((m_X9_triesBest n T x1 x2 x5 x6 x7 x8).bind (fun r27 => some (r27.2, r27.1))) else ((m_X9_ends T x2 x8 x4).bind (fun r29 => some (T, r29)))) : Option (St × Int32))).bind (fun q17 => (m_X9_cell q17.1 x5 x6 x7 x8).bind (fun r19 => ck r19 28224 (nm (sA q17.1 32 r19.toNatClampNeg q17.2) (fun T22 => m_X9_laysRounds_L32 n T22 x1 x2 x3 x4 x5 x6 x7 (x8 + 1))))))))) := rfl
def m_X9_laysRounds_L22 : Nat → St → Int32 → Int32 → Int32 → Int32 → Int32 → Int32 → Int32 → Option (St)
  | 0, _, _, _, _, _, _, _, _ => none
  | n + 1, T, x1, x2, x3, x4, x5, x6, x7 =>
    if 42 ≤ x7 then (some T) else ((m_X9_laysRounds_L32 n T x1 x2 x3 x4 x5 x6 x7 0).bind (fun q10 => m_X9_laysRounds_L22 n q10 x1 x2 x3 x4 x5 x6 (x7 + 1)))
theorem m_X9_laysRounds_L22_0 (T : St) (x1 : Int32) (x2 : Int32) (x3 : Int32) (x4 : Int32) (x5 : Int32) (x6 : Int32) (x7 : Int32) : m_X9_laysRounds_L22 0 T x1 x2 x3 x4 x5 x6 x7 = none := rfl
theorem m_X9_laysRounds_L22_s {n : Nat} {T : St} {x1 : Int32} {x2 : Int32} {x3 : Int32} {x4 : Int32} {x5 : Int32} {x6 : Int32} {x7 : Int32} : m_X9_laysRounds_L22 (n + 1) T x1 x2 x3 x4 x5 x6 x7 =
    (if 42 ≤ x7 then (some T) else ((m_X9_laysRounds_L32 n T x1 x2 x3 x4 x5 x6 x7 0).bind (fun q10 => m_X9_laysRounds_L22 n q10 x1 x2 x3 x4 x5 x6 (x7 + 1)))) := rfl
def m_X9_laysRounds_L12 : Nat → St → Int32 → Int32 → Int32 → Int32 → Int32 → Int32 → Option (St)
  | 0, _, _, _, _, _, _, _ => none
  | n + 1, T, x1, x2, x3, x4, x5, x6 =>
    if x5 < x6 then (some T) else ((m_X9_laysRounds_L22 n T x1 x2 x3 x4 x5 x6 1).bind (fun q7 => m_X9_laysRounds_L12 n q7 x1 x2 x3 x4 x5 (x6 + 1)))
theorem m_X9_laysRounds_L12_0 (T : St) (x1 : Int32) (x2 : Int32) (x3 : Int32) (x4 : Int32) (x5 : Int32) (x6 : Int32) : m_X9_laysRounds_L12 0 T x1 x2 x3 x4 x5 x6 = none := rfl
theorem m_X9_laysRounds_L12_s {n : Nat} {T : St} {x1 : Int32} {x2 : Int32} {x3 : Int32} {x4 : Int32} {x5 : Int32} {x6 : Int32} : m_X9_laysRounds_L12 (n + 1) T x1 x2 x3 x4 x5 x6 =
    (if x5 < x6 then (some T) else ((m_X9_laysRounds_L22 n T x1 x2 x3 x4 x5 x6 1).bind (fun q7 => m_X9_laysRounds_L12 n q7 x1 x2 x3 x4 x5 (x6 + 1)))) := rfl
def m_X9_laysRounds_L3 : Nat → St → Int32 → Int32 → Int32 → Int32 → Int32 → Option (St)
  | 0, _, _, _, _, _, _ => none
  | n + 1, T, x1, x2, x3, x4, x5 =>
    if x5 ≤ x3 then (some T) else ((m_X9_laysRounds_L12 n T x1 x2 x3 x4 x5 0).bind (fun q4 => m_X9_laysRounds_L3 n q4 x1 x2 x3 x4 (x5 + (-1))))
theorem m_X9_laysRounds_L3_0 (T : St) (x1 : Int32) (x2 : Int32) (x3 : Int32) (x4 : Int32) (x5 : Int32) : m_X9_laysRounds_L3 0 T x1 x2 x3 x4 x5 = none := rfl
theorem m_X9_laysRounds_L3_s {n : Nat} {T : St} {x1 : Int32} {x2 : Int32} {x3 : Int32} {x4 : Int32} {x5 : Int32} : m_X9_laysRounds_L3 (n + 1) T x1 x2 x3 x4 x5 =
    (if x5 ≤ x3 then (some T) else ((m_X9_laysRounds_L12 n T x1 x2 x3 x4 x5 0).bind (fun q4 => m_X9_laysRounds_L3 n q4 x1 x2 x3 x4 (x5 + (-1))))) := rfl
def m_X9_laysRounds (n : Nat) (T : St) (p0 : Int32) (p1 : Int32) (p2 : Int32) (p3 : Int32) : Option (St) :=
  (m_X9_laysRounds_L3 n T p0 p1 p2 p3 3).bind (fun q1 => some q1)
set_option maxHeartbeats 4000000 in
set_option maxRecDepth 100000 in
theorem c_X9_laysRounds (l : Launch) (D : va_G) (cy : Nat → ClassId) (ad : Nat → Nat) (X : va_W) (n : Nat) (T : St) (p0 : Int32) (p1 : Int32) (p2 : Int32) (p3 : Int32) (r : (St)) (h : m_X9_laysRounds n T p0 p1 p2 p3 = some r) : CT l yX9_laysRounds (wu yX9_laysRounds cX9_laysRounds 10 none) 3 D cy [.ref (ad 0), .int p0, .int p1, .int p2, .int p3] (wR ad cy T ++ X) (none) (wR ad cy r ++ X) := by
  refine CT.mk (cc := cX9_laysRounds) (maxL := 10) (ret := none) (own := RX9) (by decide) rfl rfl (Nat.le_of_ble_eq_true rfl) ?_
  intro p e s m args below meth c ls A Q hA hQ hC hr hk hW hl
  have hx := hC.1
  have hb := hC.2.1
  have hown := hC.2.2.2.1
  have hts := hC.2.2.2.2
  have hl : lv_has ls 10 [(0, .ref (ad 0)), (1, .int p0), (2, .int p1), (3, .int p2), (4, .int p3)] := hl
  have f68 := hts _ (wu_in w_5_22)
  have i9 := (fun w h => wu_in (inc_9 w h) : ∀ w ∈ u_ws RX9 TX9 40, w ∈ (wu yX9_laysRounds cX9_laysRounds 10 none))
  unfold m_X9_laysRounds at h
  refine lv_iconst (v := 3) hx hb dX9_laysRounds_0 (by decide) ?_
  refine lv_istore (lv' := [(5, .int 3), (0, .ref (ad 0)), (1, .int p0), (2, .int p1), (3, .int p2), (4, .int p3)]) hx hb dX9_laysRounds_1 hl (by decide) rfl (fun ls hl => ?_)
  have hL3 : ∀ (n : Nat) (T : St) (x1 : Int32) (x2 : Int32) (x3 : Int32) (x4 : Int32) (x5 : Int32)  (H : Heap) (locs : List Loc) (ls : Array Slot) (r : (St)), m_X9_laysRounds_L3 n T x1 x2 x3 x4 x5 = some r → Wd D cy A s (wR ad cy T ++ X) H locs → lv_has ls 10 [(0, .ref (ad 0)), (1, .int x1), (2, .int x2), (3, .int x3), (4, .int x4), (5, .int x5)] → (∀ (H : Heap) (locs : List Loc) (ls : Array Slot), Wd D cy A s (wR ad cy r ++ X) H locs → lv_has ls 10 [(0, .ref (ad 0)), (1, .int x1), (2, .int x2), (3, .int x3), (4, .int x4)] → W p l e (RM 3) s m args below meth c H locs 0 0 Q (F0 m 139 ls [])) → W p l e (RM 3) s m args below meth c H locs 0 0 Q (F0 m 3 ls []) := by
    intro n
    induction n with
    | zero =>
      intro T x1 x2 x3 x4 x5  H locs ls r h
      exact absurd (h.symm.trans (m_X9_laysRounds_L3_0 ..)) (by simp)
    | succ n ih =>
      intro T x1 x2 x3 x4 x5  H locs ls r h hW hl kk
      rw [m_X9_laysRounds_L3_s] at h
      refine lv_iload hx hb dX9_laysRounds_3 (lv_at hl 5 rfl) ?_
      refine lv_iload_n hx hb dX9_laysRounds_5 rfl (lv_at hl 3 rfl) ?_
      refine lv_icmp_le (tgt := 139) hx hb dX9_laysRounds_6 (by decide) (fun c3 => ?_) (fun c3 => ?_)
      · replace h := ite_t h c3
        obtain rfl := Option.some.inj h
        exact kk _ _ _ hW (lv_sub hl [0, 1, 2, 3, 4] rfl)
      · replace h := ite_f h c3
        refine lv_iconst (v := 0) hx hb dX9_laysRounds_9 (by decide) ?_
        refine lv_istore (lv' := [(6, .int 0), (0, .ref (ad 0)), (1, .int x1), (2, .int x2), (3, .int x3), (4, .int x4), (5, .int x5)]) hx hb dX9_laysRounds_10 hl (by decide) rfl (fun ls hl => ?_)
        have hL12 : ∀ (n : Nat) (T : St) (x1 : Int32) (x2 : Int32) (x3 : Int32) (x4 : Int32) (x5 : Int32) (x6 : Int32)  (H : Heap) (locs : List Loc) (ls : Array Slot) (r : (St)), m_X9_laysRounds_L12 n T x1 x2 x3 x4 x5 x6 = some r → Wd D cy A s (wR ad cy T ++ X) H locs → lv_has ls 10 [(0, .ref (ad 0)), (1, .int x1), (2, .int x2), (3, .int x3), (4, .int x4), (5, .int x5), (6, .int x6)] → (∀ (H : Heap) (locs : List Loc) (ls : Array Slot), Wd D cy A s (wR ad cy r ++ X) H locs → lv_has ls 10 [(0, .ref (ad 0)), (1, .int x1), (2, .int x2), (3, .int x3), (4, .int x4), (5, .int x5)] → W p l e (RM 3) s m args below meth c H locs 0 0 Q (F0 m 133 ls [])) → W p l e (RM 3) s m args below meth c H locs 0 0 Q (F0 m 12 ls []) := by
          intro n
          induction n with
          | zero =>
            intro T x1 x2 x3 x4 x5 x6  H locs ls r h
            exact absurd (h.symm.trans (m_X9_laysRounds_L12_0 ..)) (by simp)
          | succ n ih =>
            intro T x1 x2 x3 x4 x5 x6  H locs ls r h hW hl kk
            rw [m_X9_laysRounds_L12_s] at h
            refine lv_iload hx hb dX9_laysRounds_12 (lv_at hl 6 rfl) ?_
            refine lv_iload hx hb dX9_laysRounds_14 (lv_at hl 5 rfl) ?_
            refine lv_icmp_gt (tgt := 133) hx hb dX9_laysRounds_16 (by decide) (fun c6 => ?_) (fun c6 => ?_)
            · replace h := ite_t h c6
              obtain rfl := Option.some.inj h
              exact kk _ _ _ hW (lv_sub hl [0, 1, 2, 3, 4, 5] rfl)
            · replace h := ite_f h c6
              refine lv_iconst (v := 1) hx hb dX9_laysRounds_19 (by decide) ?_
              refine lv_istore (lv' := [(7, .int 1), (0, .ref (ad 0)), (1, .int x1), (2, .int x2), (3, .int x3), (4, .int x4), (5, .int x5), (6, .int x6)]) hx hb dX9_laysRounds_20 hl (by decide) rfl (fun ls hl => ?_)
              have hL22 : ∀ (n : Nat) (T : St) (x1 : Int32) (x2 : Int32) (x3 : Int32) (x4 : Int32) (x5 : Int32) (x6 : Int32) (x7 : Int32)  (H : Heap) (locs : List Loc) (ls : Array Slot) (r : (St)), m_X9_laysRounds_L22 n T x1 x2 x3 x4 x5 x6 x7 = some r → Wd D cy A s (wR ad cy T ++ X) H locs → lv_has ls 10 [(0, .ref (ad 0)), (1, .int x1), (2, .int x2), (3, .int x3), (4, .int x4), (5, .int x5), (6, .int x6), (7, .int x7)] → (∀ (H : Heap) (locs : List Loc) (ls : Array Slot), Wd D cy A s (wR ad cy r ++ X) H locs → lv_has ls 10 [(0, .ref (ad 0)), (1, .int x1), (2, .int x2), (3, .int x3), (4, .int x4), (5, .int x5), (6, .int x6)] → W p l e (RM 3) s m args below meth c H locs 0 0 Q (F0 m 127 ls [])) → W p l e (RM 3) s m args below meth c H locs 0 0 Q (F0 m 22 ls []) := by
                intro n
                induction n with
                | zero =>
                  intro T x1 x2 x3 x4 x5 x6 x7  H locs ls r h
                  exact absurd (h.symm.trans (m_X9_laysRounds_L22_0 ..)) (by simp)
                | succ n ih =>
                  intro T x1 x2 x3 x4 x5 x6 x7  H locs ls r h hW hl kk
                  rw [m_X9_laysRounds_L22_s] at h
                  refine lv_iload hx hb dX9_laysRounds_22 (lv_at hl 7 rfl) ?_
                  refine lv_bipush (v := 42) hx hb dX9_laysRounds_24 (by decide) ?_
                  refine lv_icmp_ge (tgt := 127) hx hb dX9_laysRounds_26 (by decide) (fun c9 => ?_) (fun c9 => ?_)
                  · replace h := ite_t h c9
                    obtain rfl := Option.some.inj h
                    exact kk _ _ _ hW (lv_sub hl [0, 1, 2, 3, 4, 5, 6] rfl)
                  · replace h := ite_f h c9
                    refine lv_iconst (v := 0) hx hb dX9_laysRounds_29 (by decide) ?_
                    refine lv_istore (lv' := [(8, .int 0), (0, .ref (ad 0)), (1, .int x1), (2, .int x2), (3, .int x3), (4, .int x4), (5, .int x5), (6, .int x6), (7, .int x7)]) hx hb dX9_laysRounds_30 hl (by decide) rfl (fun ls hl => ?_)
                    have hL32 : ∀ (n : Nat) (T : St) (x1 : Int32) (x2 : Int32) (x3 : Int32) (x4 : Int32) (x5 : Int32) (x6 : Int32) (x7 : Int32) (x8 : Int32)  (H : Heap) (locs : List Loc) (ls : Array Slot) (r : (St)), m_X9_laysRounds_L32 n T x1 x2 x3 x4 x5 x6 x7 x8 = some r → Wd D cy A s (wR ad cy T ++ X) H locs → lv_has ls 10 [(0, .ref (ad 0)), (1, .int x1), (2, .int x2), (3, .int x3), (4, .int x4), (5, .int x5), (6, .int x6), (7, .int x7), (8, .int x8)] → (∀ (H : Heap) (locs : List Loc) (ls : Array Slot), Wd D cy A s (wR ad cy r ++ X) H locs → lv_has ls 10 [(0, .ref (ad 0)), (1, .int x1), (2, .int x2), (3, .int x3), (4, .int x4), (5, .int x5), (6, .int x6), (7, .int x7)] → W p l e (RM 3) s m args below meth c H locs 0 0 Q (F0 m 121 ls [])) → W p l e (RM 3) s m args below meth c H locs 0 0 Q (F0 m 32 ls []) := by
                      intro n
                      induction n with
                      | zero =>
                        intro T x1 x2 x3 x4 x5 x6 x7 x8  H locs ls r h
                        exact absurd (h.symm.trans (m_X9_laysRounds_L32_0 ..)) (by simp)
                      | succ n ih =>
                        intro T x1 x2 x3 x4 x5 x6 x7 x8  H locs ls r h hW hl kk
                        rw [m_X9_laysRounds_L32_s] at h
                        refine lv_iload hx hb dX9_laysRounds_32 (lv_at hl 8 rfl) ?_
                        refine lv_iload hx hb dX9_laysRounds_34 (lv_at hl 7 rfl) ?_
                        refine lv_icmp_ge (tgt := 121) hx hb dX9_laysRounds_36 (by decide) (fun c12 => ?_) (fun c12 => ?_)
                        · replace h := ite_t h c12
                          obtain rfl := Option.some.inj h
                          exact kk _ _ _ hW (lv_sub hl [0, 1, 2, 3, 4, 5, 6, 7] rfl)
                        · replace h := ite_f h c12
                          refine lv_iload hx hb dX9_laysRounds_39 (lv_at hl 5 rfl) ?_
                          refine lv_iload hx hb dX9_laysRounds_41 (lv_at hl 6 rfl) ?_
                          refine lv_iload hx hb dX9_laysRounds_43 (lv_at hl 7 rfl) ?_
                          refine lv_iload hx hb dX9_laysRounds_45 (lv_at hl 8 rfl) ?_
                          obtain ⟨r13, hr14, h⟩ := bd_of h
                          refine wd_callS1 (As := [.int x5, .int x6, .int x7, .int x8]) hC hW (c_X9_canBe l D cy ad X T x5 x6 x7 x8 r13 hr14) (va_cwS 4 hts (gu_S w_39_15 w_39_13 w_39_14 w_1_5) rfl rfl rfl hdX9_canBe ⟨Nat.le_of_ble_eq_true rfl, Nat.le_of_ble_eq_true rfl⟩) rfl hl.1 rfl (Nat.le_of_ble_eq_true rfl) ⟨Nat.zero_le _, Nat.zero_le _⟩ dX9_laysRounds_47 (fun H locs hW => ?_)
                          refine lv_if_ne (tgt := 56) hx hb dX9_laysRounds_50 (by decide) (fun c15 => ?_) (fun c15 => ?_)
                          · replace h := ite_f h c15
                            refine lv_iload hx hb dX9_laysRounds_56 (lv_at hl 5 rfl) ?_
                            refine lv_iconst (v := 3) hx hb dX9_laysRounds_58 (by decide) ?_
                            obtain ⟨q17, hq18, h⟩ := bd_of h
                            have hJ95 : ∀ (H : Heap) (locs : List Loc) (ls : Array Slot), Wd D cy A s (wR ad cy q17.1 ++ X) H locs → lv_has ls 10 [(0, .ref (ad 0)), (1, .int x1), (2, .int x2), (3, .int x3), (4, .int x4), (5, .int x5), (6, .int x6), (7, .int x7), (8, .int x8)] → W p l e (RM 3) s m args below meth c H locs 0 0 Q (F0 m 95 ls [.int q17.2]) := by
                              intro H locs ls hW hl
                              refine lv_istore (lv' := [(9, .int q17.2), (0, .ref (ad 0)), (1, .int x1), (2, .int x2), (3, .int x3), (4, .int x4), (5, .int x5), (6, .int x6), (7, .int x7), (8, .int x8)]) hx hb dX9_laysRounds_95 hl (by decide) rfl (fun ls hl => ?_)
                              refine lv_aload_n hx hb dX9_laysRounds_97 rfl (lv_at hl 1 rfl) ?_
                              refine wd_get hC i9 hW 0 wR_c0 rfl 32 (Nat.le_of_ble_eq_true rfl) f68 rfl rfl dX9_laysRounds_98 ?_
                              refine lv_iload hx hb dX9_laysRounds_101 (lv_at hl 6 rfl) ?_
                              refine lv_iload hx hb dX9_laysRounds_103 (lv_at hl 7 rfl) ?_
                              refine lv_iload hx hb dX9_laysRounds_105 (lv_at hl 8 rfl) ?_
                              refine lv_iload hx hb dX9_laysRounds_107 (lv_at hl 9 rfl) ?_
                              obtain ⟨r19, hr20, h⟩ := bd_of h
                              refine wd_callS1 (As := [.int x5, .int x6, .int x7, .int x8]) hC hW (c_X9_cell l D cy ad X q17.1 x5 x6 x7 x8 r19 hr20) (va_cwS 4 hts (gu_S w_40_5 w_40_3 w_40_4 w_1_5) rfl rfl rfl hdX9_cell ⟨Nat.le_of_ble_eq_true rfl, Nat.le_of_ble_eq_true rfl⟩) rfl hl.1 rfl (Nat.le_of_ble_eq_true rfl) ⟨Nat.zero_le _, Nat.zero_le _⟩ dX9_laysRounds_109 (fun H locs hW => ?_)
                              refine lv_iload hx hb dX9_laysRounds_112 (lv_at hl 0 rfl) ?_
                              obtain ⟨hi21, h⟩ := ck_of h
                              refine wd_iast hC hW 20 wR_c20 hi21 wR_t20 dX9_laysRounds_114 (fun H locs hW => ?_)
                              obtain ⟨T22, e23, h⟩ := nm_of h
                              replace hW := wq_T e23 hW
                              refine lv_iinc (v := x8 + 1) (lv' := [(8, .int (x8 + 1)), (9, .int q17.2), (0, .ref (ad 0)), (1, .int x1), (2, .int x2), (3, .int x3), (4, .int x4), (5, .int x5), (6, .int x6), (7, .int x7)]) hx hb dX9_laysRounds_115 hl (k := 9) rfl rfl (by decide) rfl (fun ls hl => ?_)
                              refine lv_goto (tgt := 32) hx hb dX9_laysRounds_118 (by decide) ?_
                              exact ih T22 x1 x2 x3 x4 x5 x6 x7 (x8 + 1) _ _ _ r h hW (lv_sub hl [2, 3, 4, 5, 6, 7, 8, 9, 0] rfl) kk
                            replace h := hq18
                            refine lv_icmp_eq (tgt := 69) hx hb dX9_laysRounds_59 (by decide) (fun c16 => ?_) (fun c16 => ?_)
                            · replace h := ite_t h c16
                              refine lv_aload_n hx hb dX9_laysRounds_69 rfl (lv_at hl 0 rfl) ?_
                              refine lv_iload_n hx hb dX9_laysRounds_70 rfl (lv_at hl 2 rfl) ?_
                              refine lv_iload hx hb dX9_laysRounds_71 (lv_at hl 8 rfl) ?_
                              refine lv_iload hx hb dX9_laysRounds_73 (lv_at hl 4 rfl) ?_
                              obtain ⟨r24, hr25, h⟩ := bd_of h
                              refine wd_callV1 (As := [.int x2, .int x8, .int x4]) hC hW 0 wR_c0 rfl (c_X9_ends l D cy ad X T x2 x8 x4 r24 hr25) (cwV 3 hts (gu_V w_39_19 w_39_16 w_39_17 w_39_18 w_1_5) rfl rfl rfl hdX9_ends ⟨Nat.le_of_ble_eq_true rfl, Nat.le_of_ble_eq_true rfl⟩) rfl hl.1 rfl (Nat.le_of_ble_eq_true rfl) ⟨Nat.zero_le _, Nat.zero_le _⟩ dX9_laysRounds_75 (fun H locs hW => ?_)
                              refine lv_goto (tgt := 95) hx hb dX9_laysRounds_78 (by decide) ?_
                              obtain rfl := Option.some.inj h
                              exact hJ95 _ _ _ hW (lv_sub hl [0, 1, 2, 3, 4, 5, 6, 7, 8] rfl)
                            · replace h := ite_f h c16
                              refine lv_iload hx hb dX9_laysRounds_62 (lv_at hl 7 rfl) ?_
                              refine lv_bipush (v := 40) hx hb dX9_laysRounds_64 (by decide) ?_
                              refine lv_icmp_le (tgt := 81) hx hb dX9_laysRounds_66 (by decide) (fun c26 => ?_) (fun c26 => ?_)
                              · replace h := ite_t h c26
                                refine lv_aload_n hx hb dX9_laysRounds_81 rfl (lv_at hl 0 rfl) ?_
                                refine lv_iload_n hx hb dX9_laysRounds_82 rfl (lv_at hl 1 rfl) ?_
                                refine lv_iload_n hx hb dX9_laysRounds_83 rfl (lv_at hl 2 rfl) ?_
                                refine lv_iload hx hb dX9_laysRounds_84 (lv_at hl 5 rfl) ?_
                                refine lv_iload hx hb dX9_laysRounds_86 (lv_at hl 6 rfl) ?_
                                refine lv_iload hx hb dX9_laysRounds_88 (lv_at hl 7 rfl) ?_
                                refine lv_iload hx hb dX9_laysRounds_90 (lv_at hl 8 rfl) ?_
                                obtain ⟨r27, hr28, h⟩ := bd_of h
                                refine wd_callV1 (As := [.int x1, .int x2, .int x5, .int x6, .int x7, .int x8]) hC hW 0 wR_c0 rfl (c_X9_triesBest l D cy ad X n T x1 x2 x5 x6 x7 x8 r27 hr28) (cwV 6 hts (gu_V w_39_23 w_39_20 w_39_21 w_39_22 w_1_5) rfl rfl rfl hdX9_triesBest ⟨Nat.le_of_ble_eq_true rfl, Nat.le_of_ble_eq_true rfl⟩) rfl hl.1 rfl (Nat.le_of_ble_eq_true rfl) ⟨Nat.zero_le _, Nat.zero_le _⟩ dX9_laysRounds_92 (fun H locs hW => ?_)
                                obtain rfl := Option.some.inj h
                                exact hJ95 _ _ _ hW (lv_sub hl [0, 1, 2, 3, 4, 5, 6, 7, 8] rfl)
                              · replace h := ite_f h c26
                                refine lv_aload_n hx hb dX9_laysRounds_69 rfl (lv_at hl 0 rfl) ?_
                                refine lv_iload_n hx hb dX9_laysRounds_70 rfl (lv_at hl 2 rfl) ?_
                                refine lv_iload hx hb dX9_laysRounds_71 (lv_at hl 8 rfl) ?_
                                refine lv_iload hx hb dX9_laysRounds_73 (lv_at hl 4 rfl) ?_
                                obtain ⟨r29, hr30, h⟩ := bd_of h
                                refine wd_callV1 (As := [.int x2, .int x8, .int x4]) hC hW 0 wR_c0 rfl (c_X9_ends l D cy ad X T x2 x8 x4 r29 hr30) (cwV 3 hts (gu_V w_39_19 w_39_16 w_39_17 w_39_18 w_1_5) rfl rfl rfl hdX9_ends ⟨Nat.le_of_ble_eq_true rfl, Nat.le_of_ble_eq_true rfl⟩) rfl hl.1 rfl (Nat.le_of_ble_eq_true rfl) ⟨Nat.zero_le _, Nat.zero_le _⟩ dX9_laysRounds_75 (fun H locs hW => ?_)
                                refine lv_goto (tgt := 95) hx hb dX9_laysRounds_78 (by decide) ?_
                                obtain rfl := Option.some.inj h
                                exact hJ95 _ _ _ hW (lv_sub hl [0, 1, 2, 3, 4, 5, 6, 7, 8] rfl)
                          · replace h := ite_t h c15
                            refine lv_goto (tgt := 115) hx hb dX9_laysRounds_53 (by decide) ?_
                            refine lv_iinc (v := x8 + 1) (lv' := [(8, .int (x8 + 1)), (0, .ref (ad 0)), (1, .int x1), (2, .int x2), (3, .int x3), (4, .int x4), (5, .int x5), (6, .int x6), (7, .int x7)]) hx hb dX9_laysRounds_115 hl (k := 8) rfl rfl (by decide) rfl (fun ls hl => ?_)
                            refine lv_goto (tgt := 32) hx hb dX9_laysRounds_118 (by decide) ?_
                            exact ih T x1 x2 x3 x4 x5 x6 x7 (x8 + 1) _ _ _ r h hW (lv_sub hl [1, 2, 3, 4, 5, 6, 7, 8, 0] rfl) kk
                    obtain ⟨q10, hq11, h⟩ := bd_of h
                    refine hL32 n T x1 x2 x3 x4 x5 x6 x7 0  _ _ _ q10 hq11 hW (lv_sub hl [1, 2, 3, 4, 5, 6, 7, 8, 0] rfl) (fun H locs ls hW hl => ?_)
                    refine lv_iinc (v := x7 + 1) (lv' := [(7, .int (x7 + 1)), (0, .ref (ad 0)), (1, .int x1), (2, .int x2), (3, .int x3), (4, .int x4), (5, .int x5), (6, .int x6)]) hx hb dX9_laysRounds_121 hl (k := 7) rfl rfl (by decide) rfl (fun ls hl => ?_)
                    refine lv_goto (tgt := 22) hx hb dX9_laysRounds_124 (by decide) ?_
                    exact ih q10 x1 x2 x3 x4 x5 x6 (x7 + 1) _ _ _ r h hW (lv_sub hl [1, 2, 3, 4, 5, 6, 7, 0] rfl) kk
              obtain ⟨q7, hq8, h⟩ := bd_of h
              refine hL22 n T x1 x2 x3 x4 x5 x6 1  _ _ _ q7 hq8 hW (lv_sub hl [1, 2, 3, 4, 5, 6, 7, 0] rfl) (fun H locs ls hW hl => ?_)
              refine lv_iinc (v := x6 + 1) (lv' := [(6, .int (x6 + 1)), (0, .ref (ad 0)), (1, .int x1), (2, .int x2), (3, .int x3), (4, .int x4), (5, .int x5)]) hx hb dX9_laysRounds_127 hl (k := 6) rfl rfl (by decide) rfl (fun ls hl => ?_)
              refine lv_goto (tgt := 12) hx hb dX9_laysRounds_130 (by decide) ?_
              exact ih q7 x1 x2 x3 x4 x5 (x6 + 1) _ _ _ r h hW (lv_sub hl [1, 2, 3, 4, 5, 6, 0] rfl) kk
        obtain ⟨q4, hq5, h⟩ := bd_of h
        refine hL12 n T x1 x2 x3 x4 x5 0  _ _ _ q4 hq5 hW (lv_sub hl [1, 2, 3, 4, 5, 6, 0] rfl) (fun H locs ls hW hl => ?_)
        refine lv_iinc (v := x5 + (-1)) (lv' := [(5, .int (x5 + (-1))), (0, .ref (ad 0)), (1, .int x1), (2, .int x2), (3, .int x3), (4, .int x4)]) hx hb dX9_laysRounds_133 hl (k := 5) rfl rfl (by decide) rfl (fun ls hl => ?_)
        refine lv_goto (tgt := 3) hx hb dX9_laysRounds_136 (by decide) ?_
        exact ih q4 x1 x2 x3 x4 (x5 + (-1)) _ _ _ r h hW (lv_sub hl [1, 2, 3, 4, 5, 0] rfl) kk
  obtain ⟨q1, hq2, h⟩ := bd_of h
  refine hL3 n T p0 p1 p2 p3 3  _ _ _ q1 hq2 hW (lv_sub hl [1, 2, 3, 4, 5, 0] rfl) (fun H locs ls hW hl => ?_)
  obtain rfl := Option.some.inj h
  exact wd_vret hA hQ hC hr hk hW dX9_laysRounds_139
def m_X9_laysBehind_L2 : Nat → St → Int32 → Int32 → Int32 → Option (St)
  | 0, _, _, _, _ => none
  | n + 1, T, x1, x2, x3 =>
    if 121 ≤ x3 then (some T) else (ck x3 122 (ck (363 + x3) 484 (nm (sA T 31 (363 + x3).toNatClampNeg (T.2.1 28 x3.toNatClampNeg)) (fun T6 => m_X9_laysBehind_L2 n T6 x1 x2 (x3 + 1)))))
theorem m_X9_laysBehind_L2_0 (T : St) (x1 : Int32) (x2 : Int32) (x3 : Int32) : m_X9_laysBehind_L2 0 T x1 x2 x3 = none := rfl
theorem m_X9_laysBehind_L2_s {n : Nat} {T : St} {x1 : Int32} {x2 : Int32} {x3 : Int32} : m_X9_laysBehind_L2 (n + 1) T x1 x2 x3 =
    (if 121 ≤ x3 then (some T) else (ck x3 122 (ck (363 + x3) 484 (nm (sA T 31 (363 + x3).toNatClampNeg (T.2.1 28 x3.toNatClampNeg)) (fun T6 => m_X9_laysBehind_L2 n T6 x1 x2 (x3 + 1)))))) := rfl
def m_X9_laysBehind_L40 : Nat → St → Int32 → Int32 → Int32 → Int32 → Option (St)
  | 0, _, _, _, _, _ => none
  | n + 1, T, x1, x2, x3, x4 =>
    if (40 * x3) < x4 then (some T) else ((m_X9_laysRounds n T x1 x3 0 x4).bind (fun r14 => (m_X9_triesBest n r14 x1 x3 0 0 1 0).bind (fun r16 => ck ((121 * x3) + x4) 484 (nm (sA r16.2 31 ((121 * x3) + x4).toNatClampNeg r16.1) (fun T19 => m_X9_laysBehind_L40 n T19 x1 x2 x3 (x4 + 1))))))
theorem m_X9_laysBehind_L40_0 (T : St) (x1 : Int32) (x2 : Int32) (x3 : Int32) (x4 : Int32) : m_X9_laysBehind_L40 0 T x1 x2 x3 x4 = none := rfl
theorem m_X9_laysBehind_L40_s {n : Nat} {T : St} {x1 : Int32} {x2 : Int32} {x3 : Int32} {x4 : Int32} : m_X9_laysBehind_L40 (n + 1) T x1 x2 x3 x4 =
    (if (40 * x3) < x4 then (some T) else ((m_X9_laysRounds n T x1 x3 0 x4).bind (fun r14 => (m_X9_triesBest n r14 x1 x3 0 0 1 0).bind (fun r16 => ck ((121 * x3) + x4) 484 (nm (sA r16.2 31 ((121 * x3) + x4).toNatClampNeg r16.1) (fun T19 => m_X9_laysBehind_L40 n T19 x1 x2 x3 (x4 + 1))))))) := rfl
def m_X9_laysBehind_L32 : Nat → St → Int32 → Int32 → Int32 → Option (St)
  | 0, _, _, _, _ => none
  | n + 1, T, x1, x2, x3 =>
    if x3 ≤ x2 then (some T) else ((m_X9_laysBehind_L40 n T x1 x2 x3 0).bind (fun q11 => m_X9_laysBehind_L32 n q11 x1 x2 (x3 + (-1))))
theorem m_X9_laysBehind_L32_0 (T : St) (x1 : Int32) (x2 : Int32) (x3 : Int32) : m_X9_laysBehind_L32 0 T x1 x2 x3 = none := rfl
theorem m_X9_laysBehind_L32_s {n : Nat} {T : St} {x1 : Int32} {x2 : Int32} {x3 : Int32} : m_X9_laysBehind_L32 (n + 1) T x1 x2 x3 =
    (if x3 ≤ x2 then (some T) else ((m_X9_laysBehind_L40 n T x1 x2 x3 0).bind (fun q11 => m_X9_laysBehind_L32 n q11 x1 x2 (x3 + (-1))))) := rfl
def m_X9_laysBehind (n : Nat) (T : St) (p0 : Int32) (p1 : Int32) : Option (St) :=
  (m_X9_laysBehind_L2 n T p0 p1 0).bind (fun q1 => (m_X9_laysBehind_L32 n q1 p0 p1 2).bind (fun q8 => some q8))
set_option maxHeartbeats 4000000 in
set_option maxRecDepth 100000 in
theorem c_X9_laysBehind (l : Launch) (D : va_G) (cy : Nat → ClassId) (ad : Nat → Nat) (X : va_W) (n : Nat) (T : St) (p0 : Int32) (p1 : Int32) (r : (St)) (h : m_X9_laysBehind n T p0 p1 = some r) : CT l yX9_laysBehind (wu yX9_laysBehind cX9_laysBehind 5 none) 4 D cy [.ref (ad 0), .int p0, .int p1] (wR ad cy T ++ X) (none) (wR ad cy r ++ X) := by
  refine CT.mk (cc := cX9_laysBehind) (maxL := 5) (ret := none) (own := RX9) (by decide) rfl rfl (Nat.le_of_ble_eq_true rfl) ?_
  intro p e s m args below meth c ls A Q hA hQ hC hr hk hW hl
  have hx := hC.1
  have hb := hC.2.1
  have hown := hC.2.2.2.1
  have hts := hC.2.2.2.2
  have hl : lv_has ls 5 [(0, .ref (ad 0)), (1, .int p0), (2, .int p1)] := hl
  have f65 := hts _ (wu_in w_5_21)
  have i9 := (fun w h => wu_in (inc_9 w h) : ∀ w ∈ u_ws RX9 TX9 40, w ∈ (wu yX9_laysBehind cX9_laysBehind 5 none))
  have f56 := hts _ (wu_in w_5_18)
  unfold m_X9_laysBehind at h
  refine lv_iconst (v := 0) hx hb dX9_laysBehind_0 (by decide) ?_
  refine lv_istore_n (lv' := [(3, .int 0), (0, .ref (ad 0)), (1, .int p0), (2, .int p1)]) hx hb dX9_laysBehind_1 rfl hl (by decide) rfl (fun ls hl => ?_)
  have hL2 : ∀ (n : Nat) (T : St) (x1 : Int32) (x2 : Int32) (x3 : Int32)  (H : Heap) (locs : List Loc) (ls : Array Slot) (r : (St)), m_X9_laysBehind_L2 n T x1 x2 x3 = some r → Wd D cy A s (wR ad cy T ++ X) H locs → lv_has ls 5 [(0, .ref (ad 0)), (1, .int x1), (2, .int x2), (3, .int x3)] → (∀ (H : Heap) (locs : List Loc) (ls : Array Slot), Wd D cy A s (wR ad cy r ++ X) H locs → lv_has ls 5 [(0, .ref (ad 0)), (1, .int x1), (2, .int x2)] → W p l e (RM 4) s m args below meth c H locs 0 0 Q (F0 m 30 ls [])) → W p l e (RM 4) s m args below meth c H locs 0 0 Q (F0 m 2 ls []) := by
    intro n
    induction n with
    | zero =>
      intro T x1 x2 x3  H locs ls r h
      exact absurd (h.symm.trans (m_X9_laysBehind_L2_0 ..)) (by simp)
    | succ n ih =>
      intro T x1 x2 x3  H locs ls r h hW hl kk
      rw [m_X9_laysBehind_L2_s] at h
      refine lv_iload_n hx hb dX9_laysBehind_2 rfl (lv_at hl 3 rfl) ?_
      refine lv_bipush (v := 121) hx hb dX9_laysBehind_3 (by decide) ?_
      refine lv_icmp_ge (tgt := 30) hx hb dX9_laysBehind_5 (by decide) (fun c3 => ?_) (fun c3 => ?_)
      · replace h := ite_t h c3
        obtain rfl := Option.some.inj h
        exact kk _ _ _ hW (lv_sub hl [0, 1, 2] rfl)
      · replace h := ite_f h c3
        refine lv_aload_n hx hb dX9_laysBehind_8 rfl (lv_at hl 0 rfl) ?_
        refine wd_get hC i9 hW 0 wR_c0 rfl 31 (Nat.le_of_ble_eq_true rfl) f65 rfl rfl dX9_laysBehind_9 ?_
        refine lv_sipush (v := 363) hx hb dX9_laysBehind_12 (by decide) ?_
        refine lv_iload_n hx hb dX9_laysBehind_15 rfl (lv_at hl 3 rfl) ?_
        refine lv_iadd hx hb dX9_laysBehind_16 ?_
        refine lv_aload_n hx hb dX9_laysBehind_17 rfl (lv_at hl 0 rfl) ?_
        refine wd_get hC i9 hW 0 wR_c0 rfl 28 (Nat.le_of_ble_eq_true rfl) f56 rfl rfl dX9_laysBehind_18 ?_
        refine lv_iload_n hx hb dX9_laysBehind_21 rfl (lv_at hl 3 rfl) ?_
        obtain ⟨hi4, h⟩ := ck_of h
        refine wd_iald hC hW 16 wR_c16 hi4 dX9_laysBehind_22 ?_
        obtain ⟨hi5, h⟩ := ck_of h
        refine wd_iast hC hW 19 wR_c19 hi5 wR_t19 dX9_laysBehind_23 (fun H locs hW => ?_)
        obtain ⟨T6, e7, h⟩ := nm_of h
        replace hW := wq_T e7 hW
        refine lv_iinc (v := x3 + 1) (lv' := [(3, .int (x3 + 1)), (0, .ref (ad 0)), (1, .int x1), (2, .int x2)]) hx hb dX9_laysBehind_24 hl (k := 3) rfl rfl (by decide) rfl (fun ls hl => ?_)
        refine lv_goto (tgt := 2) hx hb dX9_laysBehind_27 (by decide) ?_
        exact ih T6 x1 x2 (x3 + 1) _ _ _ r h hW (lv_sub hl [1, 2, 3, 0] rfl) kk
  obtain ⟨q1, hq2, h⟩ := bd_of h
  refine hL2 n T p0 p1 0  _ _ _ q1 hq2 hW (lv_sub hl [1, 2, 3, 0] rfl) (fun H locs ls hW hl => ?_)
  refine lv_iconst (v := 2) hx hb dX9_laysBehind_30 (by decide) ?_
  refine lv_istore_n (lv' := [(3, .int 2), (0, .ref (ad 0)), (1, .int p0), (2, .int p1)]) hx hb dX9_laysBehind_31 rfl hl (by decide) rfl (fun ls hl => ?_)
  have hL32 : ∀ (n : Nat) (T : St) (x1 : Int32) (x2 : Int32) (x3 : Int32)  (H : Heap) (locs : List Loc) (ls : Array Slot) (r : (St)), m_X9_laysBehind_L32 n T x1 x2 x3 = some r → Wd D cy A s (wR ad cy T ++ X) H locs → lv_has ls 5 [(0, .ref (ad 0)), (1, .int x1), (2, .int x2), (3, .int x3)] → (∀ (H : Heap) (locs : List Loc) (ls : Array Slot), Wd D cy A s (wR ad cy r ++ X) H locs → lv_has ls 5 [(0, .ref (ad 0)), (1, .int x1), (2, .int x2)] → W p l e (RM 4) s m args below meth c H locs 0 0 Q (F0 m 92 ls [])) → W p l e (RM 4) s m args below meth c H locs 0 0 Q (F0 m 32 ls []) := by
    intro n
    induction n with
    | zero =>
      intro T x1 x2 x3  H locs ls r h
      exact absurd (h.symm.trans (m_X9_laysBehind_L32_0 ..)) (by simp)
    | succ n ih =>
      intro T x1 x2 x3  H locs ls r h hW hl kk
      rw [m_X9_laysBehind_L32_s] at h
      refine lv_iload_n hx hb dX9_laysBehind_32 rfl (lv_at hl 3 rfl) ?_
      refine lv_iload_n hx hb dX9_laysBehind_33 rfl (lv_at hl 2 rfl) ?_
      refine lv_icmp_le (tgt := 92) hx hb dX9_laysBehind_34 (by decide) (fun c10 => ?_) (fun c10 => ?_)
      · replace h := ite_t h c10
        obtain rfl := Option.some.inj h
        exact kk _ _ _ hW (lv_sub hl [0, 1, 2] rfl)
      · replace h := ite_f h c10
        refine lv_iconst (v := 0) hx hb dX9_laysBehind_37 (by decide) ?_
        refine lv_istore (lv' := [(4, .int 0), (0, .ref (ad 0)), (1, .int x1), (2, .int x2), (3, .int x3)]) hx hb dX9_laysBehind_38 hl (by decide) rfl (fun ls hl => ?_)
        have hL40 : ∀ (n : Nat) (T : St) (x1 : Int32) (x2 : Int32) (x3 : Int32) (x4 : Int32)  (H : Heap) (locs : List Loc) (ls : Array Slot) (r : (St)), m_X9_laysBehind_L40 n T x1 x2 x3 x4 = some r → Wd D cy A s (wR ad cy T ++ X) H locs → lv_has ls 5 [(0, .ref (ad 0)), (1, .int x1), (2, .int x2), (3, .int x3), (4, .int x4)] → (∀ (H : Heap) (locs : List Loc) (ls : Array Slot), Wd D cy A s (wR ad cy r ++ X) H locs → lv_has ls 5 [(0, .ref (ad 0)), (1, .int x1), (2, .int x2), (3, .int x3)] → W p l e (RM 4) s m args below meth c H locs 0 0 Q (F0 m 86 ls [])) → W p l e (RM 4) s m args below meth c H locs 0 0 Q (F0 m 40 ls []) := by
          intro n
          induction n with
          | zero =>
            intro T x1 x2 x3 x4  H locs ls r h
            exact absurd (h.symm.trans (m_X9_laysBehind_L40_0 ..)) (by simp)
          | succ n ih =>
            intro T x1 x2 x3 x4  H locs ls r h hW hl kk
            rw [m_X9_laysBehind_L40_s] at h
            refine lv_iload hx hb dX9_laysBehind_40 (lv_at hl 4 rfl) ?_
            refine lv_bipush (v := 40) hx hb dX9_laysBehind_42 (by decide) ?_
            refine lv_iload_n hx hb dX9_laysBehind_44 rfl (lv_at hl 3 rfl) ?_
            refine lv_imul hx hb dX9_laysBehind_45 ?_
            refine lv_icmp_gt (tgt := 86) hx hb dX9_laysBehind_46 (by decide) (fun c13 => ?_) (fun c13 => ?_)
            · replace h := ite_t h c13
              obtain rfl := Option.some.inj h
              exact kk _ _ _ hW (lv_sub hl [0, 1, 2, 3] rfl)
            · replace h := ite_f h c13
              refine lv_aload_n hx hb dX9_laysBehind_49 rfl (lv_at hl 0 rfl) ?_
              refine lv_iload_n hx hb dX9_laysBehind_50 rfl (lv_at hl 1 rfl) ?_
              refine lv_iload_n hx hb dX9_laysBehind_51 rfl (lv_at hl 3 rfl) ?_
              refine lv_iconst (v := 0) hx hb dX9_laysBehind_52 (by decide) ?_
              refine lv_iload hx hb dX9_laysBehind_53 (lv_at hl 4 rfl) ?_
              obtain ⟨r14, hr15, h⟩ := bd_of h
              refine wd_callV0 (As := [.int x1, .int x3, .int 0, .int x4]) hC hW 0 wR_c0 rfl (c_X9_laysRounds l D cy ad X n T x1 x3 0 x4 r14 hr15) (cwV 4 hts (gu_V w_39_12 w_39_9 w_39_10 w_39_11 w_1_5) rfl rfl rfl hdX9_laysRounds ⟨Nat.le_of_ble_eq_true rfl, Nat.le_of_ble_eq_true rfl⟩) rfl hl.1 rfl (Nat.le_of_ble_eq_true rfl) ⟨Nat.zero_le _, Nat.zero_le _⟩ dX9_laysBehind_55 (fun H locs hW => ?_)
              refine lv_aload_n hx hb dX9_laysBehind_58 rfl (lv_at hl 0 rfl) ?_
              refine wd_get hC i9 hW 0 wR_c0 rfl 31 (Nat.le_of_ble_eq_true rfl) f65 rfl rfl dX9_laysBehind_59 ?_
              refine lv_bipush (v := 121) hx hb dX9_laysBehind_62 (by decide) ?_
              refine lv_iload_n hx hb dX9_laysBehind_64 rfl (lv_at hl 3 rfl) ?_
              refine lv_imul hx hb dX9_laysBehind_65 ?_
              refine lv_iload hx hb dX9_laysBehind_66 (lv_at hl 4 rfl) ?_
              refine lv_iadd hx hb dX9_laysBehind_68 ?_
              refine lv_aload_n hx hb dX9_laysBehind_69 rfl (lv_at hl 0 rfl) ?_
              refine lv_iload_n hx hb dX9_laysBehind_70 rfl (lv_at hl 1 rfl) ?_
              refine lv_iload_n hx hb dX9_laysBehind_71 rfl (lv_at hl 3 rfl) ?_
              refine lv_iconst (v := 0) hx hb dX9_laysBehind_72 (by decide) ?_
              refine lv_iconst (v := 0) hx hb dX9_laysBehind_73 (by decide) ?_
              refine lv_iconst (v := 1) hx hb dX9_laysBehind_74 (by decide) ?_
              refine lv_iconst (v := 0) hx hb dX9_laysBehind_75 (by decide) ?_
              obtain ⟨r16, hr17, h⟩ := bd_of h
              refine wd_callV1 (As := [.int x1, .int x3, .int 0, .int 0, .int 1, .int 0]) hC hW 0 wR_c0 rfl (c_X9_triesBest l D cy ad X n r14 x1 x3 0 0 1 0 r16 hr17) (cwV 6 hts (gu_V w_39_23 w_39_20 w_39_21 w_39_22 w_1_5) rfl rfl rfl hdX9_triesBest ⟨Nat.le_of_ble_eq_true rfl, Nat.le_of_ble_eq_true rfl⟩) rfl hl.1 rfl (Nat.le_of_ble_eq_true rfl) ⟨Nat.zero_le _, Nat.zero_le _⟩ dX9_laysBehind_76 (fun H locs hW => ?_)
              obtain ⟨hi18, h⟩ := ck_of h
              refine wd_iast hC hW 19 wR_c19 hi18 wR_t19 dX9_laysBehind_79 (fun H locs hW => ?_)
              obtain ⟨T19, e20, h⟩ := nm_of h
              replace hW := wq_T e20 hW
              refine lv_iinc (v := x4 + 1) (lv' := [(4, .int (x4 + 1)), (0, .ref (ad 0)), (1, .int x1), (2, .int x2), (3, .int x3)]) hx hb dX9_laysBehind_80 hl (k := 4) rfl rfl (by decide) rfl (fun ls hl => ?_)
              refine lv_goto (tgt := 40) hx hb dX9_laysBehind_83 (by decide) ?_
              exact ih T19 x1 x2 x3 (x4 + 1) _ _ _ r h hW (lv_sub hl [1, 2, 3, 4, 0] rfl) kk
        obtain ⟨q11, hq12, h⟩ := bd_of h
        refine hL40 n T x1 x2 x3 0  _ _ _ q11 hq12 hW (lv_sub hl [1, 2, 3, 4, 0] rfl) (fun H locs ls hW hl => ?_)
        refine lv_iinc (v := x3 + (-1)) (lv' := [(3, .int (x3 + (-1))), (0, .ref (ad 0)), (1, .int x1), (2, .int x2)]) hx hb dX9_laysBehind_86 hl (k := 3) rfl rfl (by decide) rfl (fun ls hl => ?_)
        refine lv_goto (tgt := 32) hx hb dX9_laysBehind_89 (by decide) ?_
        exact ih q11 x1 x2 (x3 + (-1)) _ _ _ r h hW (lv_sub hl [1, 2, 3, 0] rfl) kk
  obtain ⟨q8, hq9, h⟩ := bd_of h
  refine hL32 n q1 p0 p1 2  _ _ _ q8 hq9 hW (lv_sub hl [1, 2, 3, 0] rfl) (fun H locs ls hW hl => ?_)
  obtain rfl := Option.some.inj h
  exact wd_vret hA hQ hC hr hk hW dX9_laysBehind_92
def m_X9_nextLoadOf (n : Nat) (T : St) (p0 : Int32) (p1 : Int32) (p2 : Int32) : Option (St) :=
  (m_X9_laysRounds n T p0 p1 0 p2).bind (fun r1 => (m_X9_triesBest n r1 p0 p1 0 0 1 0).bind (fun r3 => nm (sI r3.2 34 (r3.2.1 33)) (fun T5 => some T5)))
set_option maxHeartbeats 4000000 in
set_option maxRecDepth 100000 in
theorem c_X9_nextLoadOf (l : Launch) (D : va_G) (cy : Nat → ClassId) (ad : Nat → Nat) (X : va_W) (n : Nat) (T : St) (p0 : Int32) (p1 : Int32) (p2 : Int32) (r : (St)) (h : m_X9_nextLoadOf n T p0 p1 p2 = some r) : CT l yX9_nextLoadOf (wu yX9_nextLoadOf cX9_nextLoadOf 4 none) 4 D cy [.ref (ad 0), .int p0, .int p1, .int p2] (wR ad cy T ++ X) (none) (wR ad cy r ++ X) := by
  refine CT.mk (cc := cX9_nextLoadOf) (maxL := 4) (ret := none) (own := RX9) (by decide) rfl rfl (Nat.le_of_ble_eq_true rfl) ?_
  intro p e s m args below meth c ls A Q hA hQ hC hr hk hW hl
  have hx := hC.1
  have hb := hC.2.1
  have hown := hC.2.2.2.1
  have hts := hC.2.2.2.2
  have hl : lv_has ls 4 [(0, .ref (ad 0)), (1, .int p0), (2, .int p1), (3, .int p2)] := hl
  have f322 := hts _ (wu_in w_39_4)
  have i9 := (fun w h => wu_in (inc_9 w h) : ∀ w ∈ u_ws RX9 TX9 40, w ∈ (wu yX9_nextLoadOf cX9_nextLoadOf 4 none))
  have f346 := hts _ (wu_in w_38_23)
  unfold m_X9_nextLoadOf at h
  refine lv_aload_n hx hb dX9_nextLoadOf_0 rfl (lv_at hl 0 rfl) ?_
  refine lv_iload_n hx hb dX9_nextLoadOf_1 rfl (lv_at hl 1 rfl) ?_
  refine lv_iload_n hx hb dX9_nextLoadOf_2 rfl (lv_at hl 2 rfl) ?_
  refine lv_iconst (v := 0) hx hb dX9_nextLoadOf_3 (by decide) ?_
  refine lv_iload_n hx hb dX9_nextLoadOf_4 rfl (lv_at hl 3 rfl) ?_
  obtain ⟨r1, hr2, h⟩ := bd_of h
  refine wd_callV0 (As := [.int p0, .int p1, .int 0, .int p2]) hC hW 0 wR_c0 rfl (c_X9_laysRounds l D cy ad X n T p0 p1 0 p2 r1 hr2) (cwV 4 hts (gu_V w_39_12 w_39_9 w_39_10 w_39_11 w_1_5) rfl rfl rfl hdX9_laysRounds ⟨Nat.le_of_ble_eq_true rfl, Nat.le_of_ble_eq_true rfl⟩) rfl hl.1 rfl (Nat.le_of_ble_eq_true rfl) ⟨Nat.zero_le _, Nat.zero_le _⟩ dX9_nextLoadOf_5 (fun H locs hW => ?_)
  refine lv_aload_n hx hb dX9_nextLoadOf_8 rfl (lv_at hl 0 rfl) ?_
  refine lv_iload_n hx hb dX9_nextLoadOf_9 rfl (lv_at hl 1 rfl) ?_
  refine lv_iload_n hx hb dX9_nextLoadOf_10 rfl (lv_at hl 2 rfl) ?_
  refine lv_iconst (v := 0) hx hb dX9_nextLoadOf_11 (by decide) ?_
  refine lv_iconst (v := 0) hx hb dX9_nextLoadOf_12 (by decide) ?_
  refine lv_iconst (v := 1) hx hb dX9_nextLoadOf_13 (by decide) ?_
  refine lv_iconst (v := 0) hx hb dX9_nextLoadOf_14 (by decide) ?_
  obtain ⟨r3, hr4, h⟩ := bd_of h
  refine wd_callV1 (As := [.int p0, .int p1, .int 0, .int 0, .int 1, .int 0]) hC hW 0 wR_c0 rfl (c_X9_triesBest l D cy ad X n r1 p0 p1 0 0 1 0 r3 hr4) (cwV 6 hts (gu_V w_39_23 w_39_20 w_39_21 w_39_22 w_1_5) rfl rfl rfl hdX9_triesBest ⟨Nat.le_of_ble_eq_true rfl, Nat.le_of_ble_eq_true rfl⟩) rfl hl.1 rfl (Nat.le_of_ble_eq_true rfl) ⟨Nat.zero_le _, Nat.zero_le _⟩ dX9_nextLoadOf_15 (fun H locs hW => ?_)
  refine lv_pop hx hb dX9_nextLoadOf_18 rfl ?_
  refine lv_aload_n hx hb dX9_nextLoadOf_19 rfl (lv_at hl 0 rfl) ?_
  refine lv_aload_n hx hb dX9_nextLoadOf_20 rfl (lv_at hl 0 rfl) ?_
  refine wd_get hC i9 hW 0 wR_c0 rfl 33 (Nat.le_of_ble_eq_true rfl) f322 rfl rfl dX9_nextLoadOf_21 ?_
  refine wd_put hC i9 tyX9_ok nmX9 hW 0 wR_c0 rfl 34 (Nat.le_of_ble_eq_true rfl) f346 rfl rfl rfl rfl (Nat.le_of_ble_eq_true rfl) wR_s0_34 dX9_nextLoadOf_24 (fun H locs hW => ?_)
  obtain ⟨T5, e6, h⟩ := nm_of h
  replace hW := wq_T e6 hW
  obtain rfl := Option.some.inj h
  exact wd_vret hA hQ hC hr hk hW dX9_nextLoadOf_27
def m_X9_freeNow (n : Nat) (T : St) (p0 : Int32) : Option (Int32 × St) :=
  nm (sI T 34 0) (fun T1 => (m_X9_isOut T1 p0).bind (fun r3 => if r3 = 0 then ((m_X9_isOver T1).bind (fun r9 => if r9 = 0 then (ck 0 63 ((m_X9_of T1 p0 (7 + (T1.2.1 11 ((0 : Int32).toNatClampNeg)))).bind (fun r13 => (m_X9_sumAhead n T1 p0).bind (fun r15 => (m_X9_laysBehind n T1 p0 (T1.2.1 11 ((0 : Int32).toNatClampNeg))).bind (fun r17 => (m_X9_leastOf r17 p0).bind (fun r19 => if r19 = 0 then (if r13 = 0 then (ck 0 122 (some (r17.2.1 28 ((0 : Int32).toNatClampNeg), r17))) else (((if 2 ≤ (T1.2.1 11 ((0 : Int32).toNatClampNeg)) then (some r17) else ((m_X9_nextLoadOf n r17 p0 ((T1.2.1 11 ((0 : Int32).toNatClampNeg)) + 1) (r15 + r13)).bind (fun r28 => some r28)) : Option (St))).bind (fun q24 => (m_X9_ends q24 (T1.2.1 11 ((0 : Int32).toNatClampNeg)) r13 r15).bind (fun r26 => some (r26, q24))))) else ((m_X9_leastOf r17 p0).bind (fun r31 => if r31 ≤ 40 then ((m_X9_roundOf r17 p0).bind (fun r34 => (m_X9_laysRounds n r17 p0 (T1.2.1 11 ((0 : Int32).toNatClampNeg)) r34 r15).bind (fun r36 => (m_X9_roundOf r36 p0).bind (fun r38 => (m_X9_of r36 p0 4).bind (fun r40 => (m_X9_leastOf r36 p0).bind (fun r42 => (m_X9_triesBest n r36 p0 (T1.2.1 11 ((0 : Int32).toNatClampNeg)) r38 r40 r42 r13).bind (fun r44 => nm (sI r44.2 34 (r44.2.1 33)) (fun T46 => some (r44.1, T46))))))))) else (if r13 = 0 then (ck 0 122 (some (r17.2.1 28 ((0 : Int32).toNatClampNeg), r17))) else (((if 2 ≤ (T1.2.1 11 ((0 : Int32).toNatClampNeg)) then (some r17) else ((m_X9_nextLoadOf n r17 p0 ((T1.2.1 11 ((0 : Int32).toNatClampNeg)) + 1) (r15 + r13)).bind (fun r54 => some r54)) : Option (St))).bind (fun q50 => (m_X9_ends q50 (T1.2.1 11 ((0 : Int32).toNatClampNeg)) r13 r15).bind (fun r52 => some (r52, q50))))))))))))) else ((m_X9_sumOf T1 p0).bind (fun r57 => ck r57 122 (some (T1.2.1 28 r57.toNatClampNeg, T1)))))) else ((m_X9_sumOf T1 p0).bind (fun r6 => ck r6 122 (some (T1.2.1 28 r6.toNatClampNeg, T1))))))
set_option maxHeartbeats 4000000 in
set_option maxRecDepth 100000 in
theorem c_X9_freeNow (l : Launch) (D : va_G) (cy : Nat → ClassId) (ad : Nat → Nat) (X : va_W) (n : Nat) (T : St) (p0 : Int32) (r : (Int32 × St)) (h : m_X9_freeNow n T p0 = some r) : CT l yX9_freeNow (wu yX9_freeNow cX9_freeNow 6 (some .int)) 5 D cy [.ref (ad 0), .int p0] (wR ad cy T ++ X) (some (.int r.1)) (wR ad cy r.2 ++ X) := by
  refine CT.mk (cc := cX9_freeNow) (maxL := 6) (ret := (some .int)) (own := RX9) (by decide) rfl rfl (Nat.le_of_ble_eq_true rfl) ?_
  intro p e s m args below meth c ls A Q hA hQ hC hr hk hW hl
  have hx := hC.1
  have hb := hC.2.1
  have hown := hC.2.2.2.1
  have hts := hC.2.2.2.2
  have hl : lv_has ls 6 [(0, .ref (ad 0)), (1, .int p0)] := hl
  have f346 := hts _ (wu_in w_38_23)
  have i9 := (fun w h => wu_in (inc_9 w h) : ∀ w ∈ u_ws RX9 TX9 40, w ∈ (wu yX9_freeNow cX9_freeNow 6 (some .int)))
  have f56 := hts _ (wu_in w_5_18)
  have f32 := hts _ (wu_in w_5_10)
  have f322 := hts _ (wu_in w_39_4)
  unfold m_X9_freeNow at h
  refine lv_aload_n hx hb dX9_freeNow_0 rfl (lv_at hl 0 rfl) ?_
  refine lv_iconst (v := 0) hx hb dX9_freeNow_1 (by decide) ?_
  refine wd_put hC i9 tyX9_ok nmX9 hW 0 wR_c0 rfl 34 (Nat.le_of_ble_eq_true rfl) f346 rfl rfl rfl rfl (Nat.le_of_ble_eq_true rfl) wR_s0_34 dX9_freeNow_2 (fun H locs hW => ?_)
  obtain ⟨T1, e2, h⟩ := nm_of h
  replace hW := wq_T e2 hW
  refine lv_aload_n hx hb dX9_freeNow_5 rfl (lv_at hl 0 rfl) ?_
  refine lv_iload_n hx hb dX9_freeNow_6 rfl (lv_at hl 1 rfl) ?_
  obtain ⟨r3, hr4, h⟩ := bd_of h
  refine wd_callV1 (As := [.int p0]) hC hW 0 wR_c0 rfl (c_X9_isOut l D cy ad X T1 p0 r3 hr4) (cwV 1 hts (gu_V w_11_20 w_11_17 w_11_18 w_11_19 w_1_5) rfl rfl rfl hdX9_isOut ⟨Nat.le_of_ble_eq_true rfl, Nat.le_of_ble_eq_true rfl⟩) rfl hl.1 rfl (Nat.le_of_ble_eq_true rfl) ⟨Nat.zero_le _, Nat.zero_le _⟩ dX9_freeNow_7 (fun H locs hW => ?_)
  refine lv_if_ne (tgt := 20) hx hb dX9_freeNow_10 (by decide) (fun c5 => ?_) (fun c5 => ?_)
  · replace h := ite_f h c5
    refine lv_aload_n hx hb dX9_freeNow_20 rfl (lv_at hl 0 rfl) ?_
    refine wd_get hC i9 hW 0 wR_c0 rfl 28 (Nat.le_of_ble_eq_true rfl) f56 rfl rfl dX9_freeNow_21 ?_
    refine lv_aload_n hx hb dX9_freeNow_24 rfl (lv_at hl 0 rfl) ?_
    refine lv_iload_n hx hb dX9_freeNow_25 rfl (lv_at hl 1 rfl) ?_
    obtain ⟨r6, hr7, h⟩ := bd_of h
    refine wd_callV1 (As := [.int p0]) hC hW 0 wR_c0 rfl (c_X9_sumOf l D cy ad X T1 p0 r6 hr7) (cwV 1 hts (gu_V w_17_22 w_17_19 w_17_20 w_17_21 w_1_5) rfl rfl rfl hdX9_sumOf ⟨Nat.le_of_ble_eq_true rfl, Nat.le_of_ble_eq_true rfl⟩) rfl hl.1 rfl (Nat.le_of_ble_eq_true rfl) ⟨Nat.zero_le _, Nat.zero_le _⟩ dX9_freeNow_26 (fun H locs hW => ?_)
    obtain ⟨hi8, h⟩ := ck_of h
    refine wd_iald hC hW 16 wR_c16 hi8 dX9_freeNow_29 ?_
    obtain rfl := Option.some.inj h
    exact wd_iret hA hQ hC hr hk hW dX9_freeNow_30
  · replace h := ite_t h c5
    refine lv_aload_n hx hb dX9_freeNow_13 rfl (lv_at hl 0 rfl) ?_
    obtain ⟨r9, hr10, h⟩ := bd_of h
    refine wd_callV1 (As := []) hC hW 0 wR_c0 rfl (c_X9_isOver l D cy ad X T1 r9 hr10) (cwV 0 hts (gu_V w_11_16 w_11_13 w_11_14 w_11_15 w_1_5) rfl rfl rfl hdX9_isOver ⟨Nat.le_of_ble_eq_true rfl, Nat.le_of_ble_eq_true rfl⟩) rfl hl.1 rfl (Nat.le_of_ble_eq_true rfl) ⟨Nat.zero_le _, Nat.zero_le _⟩ dX9_freeNow_14 (fun H locs hW => ?_)
    refine lv_if_eq (tgt := 31) hx hb dX9_freeNow_17 (by decide) (fun c11 => ?_) (fun c11 => ?_)
    · replace h := ite_t h c11
      refine lv_aload_n hx hb dX9_freeNow_31 rfl (lv_at hl 0 rfl) ?_
      refine wd_get hC i9 hW 0 wR_c0 rfl 11 (Nat.le_of_ble_eq_true rfl) f32 rfl rfl dX9_freeNow_32 ?_
      refine lv_iconst (v := 0) hx hb dX9_freeNow_35 (by decide) ?_
      obtain ⟨hi12, h⟩ := ck_of h
      refine wd_iald hC hW 8 wR_c8 hi12 dX9_freeNow_36 ?_
      refine lv_istore_n (lv' := [(2, .int (T1.2.1 11 ((0 : Int32).toNatClampNeg))), (0, .ref (ad 0)), (1, .int p0)]) hx hb dX9_freeNow_37 rfl hl (by decide) rfl (fun ls hl => ?_)
      refine lv_aload_n hx hb dX9_freeNow_38 rfl (lv_at hl 1 rfl) ?_
      refine lv_iload_n hx hb dX9_freeNow_39 rfl (lv_at hl 2 rfl) ?_
      refine lv_bipush (v := 7) hx hb dX9_freeNow_40 (by decide) ?_
      refine lv_iload_n hx hb dX9_freeNow_42 rfl (lv_at hl 0 rfl) ?_
      refine lv_iadd hx hb dX9_freeNow_43 ?_
      obtain ⟨r13, hr14, h⟩ := bd_of h
      refine wd_callV1 (As := [.int p0, .int (7 + (T1.2.1 11 ((0 : Int32).toNatClampNeg)))]) hC hW 0 wR_c0 rfl (c_X9_of l D cy ad X T1 p0 (7 + (T1.2.1 11 ((0 : Int32).toNatClampNeg))) r13 hr14) (cwV 2 hts (gu_V w_12_0 w_11_21 w_11_22 w_11_23 w_1_5) rfl rfl rfl hdX9_of ⟨Nat.le_of_ble_eq_true rfl, Nat.le_of_ble_eq_true rfl⟩) rfl hl.1 rfl (Nat.le_of_ble_eq_true rfl) ⟨Nat.zero_le _, Nat.zero_le _⟩ dX9_freeNow_44 (fun H locs hW => ?_)
      refine lv_istore_n (lv' := [(3, .int r13), (2, .int (T1.2.1 11 ((0 : Int32).toNatClampNeg))), (0, .ref (ad 0)), (1, .int p0)]) hx hb dX9_freeNow_47 rfl hl (by decide) rfl (fun ls hl => ?_)
      refine lv_aload_n hx hb dX9_freeNow_48 rfl (lv_at hl 2 rfl) ?_
      refine lv_iload_n hx hb dX9_freeNow_49 rfl (lv_at hl 3 rfl) ?_
      obtain ⟨r15, hr16, h⟩ := bd_of h
      refine wd_callV1 (As := [.int p0]) hC hW 0 wR_c0 rfl (c_X9_sumAhead l D cy ad X n T1 p0 r15 hr16) (cwV 1 hts (gu_V w_28_19 w_28_16 w_28_17 w_28_18 w_1_5) rfl rfl rfl hdX9_sumAhead ⟨Nat.le_of_ble_eq_true rfl, Nat.le_of_ble_eq_true rfl⟩) rfl hl.1 rfl (Nat.le_of_ble_eq_true rfl) ⟨Nat.zero_le _, Nat.zero_le _⟩ dX9_freeNow_50 (fun H locs hW => ?_)
      refine lv_istore (lv' := [(4, .int r15), (3, .int r13), (2, .int (T1.2.1 11 ((0 : Int32).toNatClampNeg))), (0, .ref (ad 0)), (1, .int p0)]) hx hb dX9_freeNow_53 hl (by decide) rfl (fun ls hl => ?_)
      refine lv_aload_n hx hb dX9_freeNow_55 rfl (lv_at hl 3 rfl) ?_
      refine lv_iload_n hx hb dX9_freeNow_56 rfl (lv_at hl 4 rfl) ?_
      refine lv_iload_n hx hb dX9_freeNow_57 rfl (lv_at hl 2 rfl) ?_
      obtain ⟨r17, hr18, h⟩ := bd_of h
      refine wd_callV0 (As := [.int p0, .int (T1.2.1 11 ((0 : Int32).toNatClampNeg))]) hC hW 0 wR_c0 rfl (c_X9_laysBehind l D cy ad X n T1 p0 (T1.2.1 11 ((0 : Int32).toNatClampNeg)) r17 hr18) (cwV 2 hts (gu_V w_39_8 w_39_5 w_39_6 w_39_7 w_1_5) rfl rfl rfl hdX9_laysBehind ⟨Nat.le_of_ble_eq_true rfl, Nat.le_of_ble_eq_true rfl⟩) rfl hl.1 rfl (Nat.le_of_ble_eq_true rfl) ⟨Nat.zero_le _, Nat.zero_le _⟩ dX9_freeNow_58 (fun H locs hW => ?_)
      refine lv_aload_n hx hb dX9_freeNow_61 rfl (lv_at hl 3 rfl) ?_
      refine lv_iload_n hx hb dX9_freeNow_62 rfl (lv_at hl 4 rfl) ?_
      obtain ⟨r19, hr20, h⟩ := bd_of h
      refine wd_callV1 (As := [.int p0]) hC hW 0 wR_c0 rfl (c_X9_leastOf l D cy ad X r17 p0 r19 hr20) (cwV 1 hts (gu_V w_17_11 w_17_8 w_17_9 w_17_10 w_1_5) rfl rfl rfl hdX9_leastOf ⟨Nat.le_of_ble_eq_true rfl, Nat.le_of_ble_eq_true rfl⟩) rfl hl.1 rfl (Nat.le_of_ble_eq_true rfl) ⟨Nat.zero_le _, Nat.zero_le _⟩ dX9_freeNow_63 (fun H locs hW => ?_)
      refine lv_if_eq (tgt := 79) hx hb dX9_freeNow_66 (by decide) (fun c21 => ?_) (fun c21 => ?_)
      · replace h := ite_t h c21
        refine lv_iload_n hx hb dX9_freeNow_79 rfl (lv_at hl 1 rfl) ?_
        refine lv_if_ne (tgt := 90) hx hb dX9_freeNow_80 (by decide) (fun c22 => ?_) (fun c22 => ?_)
        · replace h := ite_f h c22
          refine lv_iload_n hx hb dX9_freeNow_90 rfl (lv_at hl 2 rfl) ?_
          refine lv_iconst (v := 2) hx hb dX9_freeNow_91 (by decide) ?_
          obtain ⟨q24, hq25, h⟩ := bd_of h
          have hJ107 : ∀ (H : Heap) (locs : List Loc) (ls : Array Slot), Wd D cy A s (wR ad cy q24 ++ X) H locs → lv_has ls 6 [(4, .int r15), (3, .int r13), (2, .int (T1.2.1 11 ((0 : Int32).toNatClampNeg))), (0, .ref (ad 0)), (1, .int p0)] → W p l e (RM 5) s m args below meth c H locs 0 0 Q (F0 m 107 ls []) := by
            intro H locs ls hW hl
            refine lv_aload_n hx hb dX9_freeNow_107 rfl (lv_at hl 3 rfl) ?_
            refine lv_iload_n hx hb dX9_freeNow_108 rfl (lv_at hl 2 rfl) ?_
            refine lv_iload_n hx hb dX9_freeNow_109 rfl (lv_at hl 1 rfl) ?_
            refine lv_iload hx hb dX9_freeNow_110 (lv_at hl 0 rfl) ?_
            obtain ⟨r26, hr27, h⟩ := bd_of h
            refine wd_callV1 (As := [.int (T1.2.1 11 ((0 : Int32).toNatClampNeg)), .int r13, .int r15]) hC hW 0 wR_c0 rfl (c_X9_ends l D cy ad X q24 (T1.2.1 11 ((0 : Int32).toNatClampNeg)) r13 r15 r26 hr27) (cwV 3 hts (gu_V w_39_19 w_39_16 w_39_17 w_39_18 w_1_5) rfl rfl rfl hdX9_ends ⟨Nat.le_of_ble_eq_true rfl, Nat.le_of_ble_eq_true rfl⟩) rfl hl.1 rfl (Nat.le_of_ble_eq_true rfl) ⟨Nat.zero_le _, Nat.zero_le _⟩ dX9_freeNow_112 (fun H locs hW => ?_)
            obtain rfl := Option.some.inj h
            exact wd_iret hA hQ hC hr hk hW dX9_freeNow_115
          replace h := hq25
          refine lv_icmp_ge (tgt := 107) hx hb dX9_freeNow_92 (by decide) (fun c23 => ?_) (fun c23 => ?_)
          · replace h := ite_t h c23
            obtain rfl := Option.some.inj h
            exact hJ107 _ _ _ hW (lv_sub hl [0, 1, 2, 3, 4] rfl)
          · replace h := ite_f h c23
            refine lv_aload_n hx hb dX9_freeNow_95 rfl (lv_at hl 3 rfl) ?_
            refine lv_iload_n hx hb dX9_freeNow_96 rfl (lv_at hl 4 rfl) ?_
            refine lv_iload_n hx hb dX9_freeNow_97 rfl (lv_at hl 2 rfl) ?_
            refine lv_iconst (v := 1) hx hb dX9_freeNow_98 (by decide) ?_
            refine lv_iadd hx hb dX9_freeNow_99 ?_
            refine lv_iload hx hb dX9_freeNow_100 (lv_at hl 0 rfl) ?_
            refine lv_iload_n hx hb dX9_freeNow_102 rfl (lv_at hl 1 rfl) ?_
            refine lv_iadd hx hb dX9_freeNow_103 ?_
            obtain ⟨r28, hr29, h⟩ := bd_of h
            refine wd_callV0 (As := [.int p0, .int ((T1.2.1 11 ((0 : Int32).toNatClampNeg)) + 1), .int (r15 + r13)]) hC hW 0 wR_c0 rfl (c_X9_nextLoadOf l D cy ad X n r17 p0 ((T1.2.1 11 ((0 : Int32).toNatClampNeg)) + 1) (r15 + r13) r28 hr29) (cwV 3 hts (gu_V w_40_9 w_40_6 w_40_7 w_40_8 w_1_5) rfl rfl rfl hdX9_nextLoadOf ⟨Nat.le_of_ble_eq_true rfl, Nat.le_of_ble_eq_true rfl⟩) rfl hl.1 rfl (Nat.le_of_ble_eq_true rfl) ⟨Nat.zero_le _, Nat.zero_le _⟩ dX9_freeNow_104 (fun H locs hW => ?_)
            obtain rfl := Option.some.inj h
            exact hJ107 _ _ _ hW (lv_sub hl [0, 1, 2, 3, 4] rfl)
        · replace h := ite_t h c22
          refine lv_aload_n hx hb dX9_freeNow_83 rfl (lv_at hl 3 rfl) ?_
          refine wd_get hC i9 hW 0 wR_c0 rfl 28 (Nat.le_of_ble_eq_true rfl) f56 rfl rfl dX9_freeNow_84 ?_
          refine lv_iconst (v := 0) hx hb dX9_freeNow_87 (by decide) ?_
          obtain ⟨hi30, h⟩ := ck_of h
          refine wd_iald hC hW 16 wR_c16 hi30 dX9_freeNow_88 ?_
          obtain rfl := Option.some.inj h
          exact wd_iret hA hQ hC hr hk hW dX9_freeNow_89
      · replace h := ite_f h c21
        refine lv_aload_n hx hb dX9_freeNow_69 rfl (lv_at hl 3 rfl) ?_
        refine lv_iload_n hx hb dX9_freeNow_70 rfl (lv_at hl 4 rfl) ?_
        obtain ⟨r31, hr32, h⟩ := bd_of h
        refine wd_callV1 (As := [.int p0]) hC hW 0 wR_c0 rfl (c_X9_leastOf l D cy ad X r17 p0 r31 hr32) (cwV 1 hts (gu_V w_17_11 w_17_8 w_17_9 w_17_10 w_1_5) rfl rfl rfl hdX9_leastOf ⟨Nat.le_of_ble_eq_true rfl, Nat.le_of_ble_eq_true rfl⟩) rfl hl.1 rfl (Nat.le_of_ble_eq_true rfl) ⟨Nat.zero_le _, Nat.zero_le _⟩ dX9_freeNow_71 (fun H locs hW => ?_)
        refine lv_bipush (v := 40) hx hb dX9_freeNow_74 (by decide) ?_
        refine lv_icmp_le (tgt := 116) hx hb dX9_freeNow_76 (by decide) (fun c33 => ?_) (fun c33 => ?_)
        · replace h := ite_t h c33
          refine lv_aload_n hx hb dX9_freeNow_116 rfl (lv_at hl 3 rfl) ?_
          refine lv_iload_n hx hb dX9_freeNow_117 rfl (lv_at hl 4 rfl) ?_
          refine lv_iload_n hx hb dX9_freeNow_118 rfl (lv_at hl 2 rfl) ?_
          refine lv_aload_n hx hb dX9_freeNow_119 rfl (lv_at hl 3 rfl) ?_
          refine lv_iload_n hx hb dX9_freeNow_120 rfl (lv_at hl 4 rfl) ?_
          obtain ⟨r34, hr35, h⟩ := bd_of h
          refine wd_callV1 (As := [.int p0]) hC hW 0 wR_c0 rfl (c_X9_roundOf l D cy ad X r17 p0 r34 hr35) (cwV 1 hts (gu_V w_28_15 w_28_12 w_28_13 w_28_14 w_1_5) rfl rfl rfl hdX9_roundOf ⟨Nat.le_of_ble_eq_true rfl, Nat.le_of_ble_eq_true rfl⟩) rfl hl.1 rfl (Nat.le_of_ble_eq_true rfl) ⟨Nat.zero_le _, Nat.zero_le _⟩ dX9_freeNow_121 (fun H locs hW => ?_)
          refine lv_iload hx hb dX9_freeNow_124 (lv_at hl 0 rfl) ?_
          obtain ⟨r36, hr37, h⟩ := bd_of h
          refine wd_callV0 (As := [.int p0, .int (T1.2.1 11 ((0 : Int32).toNatClampNeg)), .int r34, .int r15]) hC hW 0 wR_c0 rfl (c_X9_laysRounds l D cy ad X n r17 p0 (T1.2.1 11 ((0 : Int32).toNatClampNeg)) r34 r15 r36 hr37) (cwV 4 hts (gu_V w_39_12 w_39_9 w_39_10 w_39_11 w_1_5) rfl rfl rfl hdX9_laysRounds ⟨Nat.le_of_ble_eq_true rfl, Nat.le_of_ble_eq_true rfl⟩) rfl hl.1 rfl (Nat.le_of_ble_eq_true rfl) ⟨Nat.zero_le _, Nat.zero_le _⟩ dX9_freeNow_126 (fun H locs hW => ?_)
          refine lv_aload_n hx hb dX9_freeNow_129 rfl (lv_at hl 3 rfl) ?_
          refine lv_iload_n hx hb dX9_freeNow_130 rfl (lv_at hl 4 rfl) ?_
          refine lv_iload_n hx hb dX9_freeNow_131 rfl (lv_at hl 2 rfl) ?_
          refine lv_aload_n hx hb dX9_freeNow_132 rfl (lv_at hl 3 rfl) ?_
          refine lv_iload_n hx hb dX9_freeNow_133 rfl (lv_at hl 4 rfl) ?_
          obtain ⟨r38, hr39, h⟩ := bd_of h
          refine wd_callV1 (As := [.int p0]) hC hW 0 wR_c0 rfl (c_X9_roundOf l D cy ad X r36 p0 r38 hr39) (cwV 1 hts (gu_V w_28_15 w_28_12 w_28_13 w_28_14 w_1_5) rfl rfl rfl hdX9_roundOf ⟨Nat.le_of_ble_eq_true rfl, Nat.le_of_ble_eq_true rfl⟩) rfl hl.1 rfl (Nat.le_of_ble_eq_true rfl) ⟨Nat.zero_le _, Nat.zero_le _⟩ dX9_freeNow_134 (fun H locs hW => ?_)
          refine lv_aload_n hx hb dX9_freeNow_137 rfl (lv_at hl 3 rfl) ?_
          refine lv_iload_n hx hb dX9_freeNow_138 rfl (lv_at hl 4 rfl) ?_
          refine lv_iconst (v := 4) hx hb dX9_freeNow_139 (by decide) ?_
          obtain ⟨r40, hr41, h⟩ := bd_of h
          refine wd_callV1 (As := [.int p0, .int 4]) hC hW 0 wR_c0 rfl (c_X9_of l D cy ad X r36 p0 4 r40 hr41) (cwV 2 hts (gu_V w_12_0 w_11_21 w_11_22 w_11_23 w_1_5) rfl rfl rfl hdX9_of ⟨Nat.le_of_ble_eq_true rfl, Nat.le_of_ble_eq_true rfl⟩) rfl hl.1 rfl (Nat.le_of_ble_eq_true rfl) ⟨Nat.zero_le _, Nat.zero_le _⟩ dX9_freeNow_140 (fun H locs hW => ?_)
          refine lv_aload_n hx hb dX9_freeNow_143 rfl (lv_at hl 3 rfl) ?_
          refine lv_iload_n hx hb dX9_freeNow_144 rfl (lv_at hl 4 rfl) ?_
          obtain ⟨r42, hr43, h⟩ := bd_of h
          refine wd_callV1 (As := [.int p0]) hC hW 0 wR_c0 rfl (c_X9_leastOf l D cy ad X r36 p0 r42 hr43) (cwV 1 hts (gu_V w_17_11 w_17_8 w_17_9 w_17_10 w_1_5) rfl rfl rfl hdX9_leastOf ⟨Nat.le_of_ble_eq_true rfl, Nat.le_of_ble_eq_true rfl⟩) rfl hl.1 rfl (Nat.le_of_ble_eq_true rfl) ⟨Nat.zero_le _, Nat.zero_le _⟩ dX9_freeNow_145 (fun H locs hW => ?_)
          refine lv_iload_n hx hb dX9_freeNow_148 rfl (lv_at hl 1 rfl) ?_
          obtain ⟨r44, hr45, h⟩ := bd_of h
          refine wd_callV1 (As := [.int p0, .int (T1.2.1 11 ((0 : Int32).toNatClampNeg)), .int r38, .int r40, .int r42, .int r13]) hC hW 0 wR_c0 rfl (c_X9_triesBest l D cy ad X n r36 p0 (T1.2.1 11 ((0 : Int32).toNatClampNeg)) r38 r40 r42 r13 r44 hr45) (cwV 6 hts (gu_V w_39_23 w_39_20 w_39_21 w_39_22 w_1_5) rfl rfl rfl hdX9_triesBest ⟨Nat.le_of_ble_eq_true rfl, Nat.le_of_ble_eq_true rfl⟩) rfl hl.1 rfl (Nat.le_of_ble_eq_true rfl) ⟨Nat.zero_le _, Nat.zero_le _⟩ dX9_freeNow_149 (fun H locs hW => ?_)
          refine lv_istore (lv' := [(5, .int r44.1), (4, .int r15), (3, .int r13), (2, .int (T1.2.1 11 ((0 : Int32).toNatClampNeg))), (0, .ref (ad 0)), (1, .int p0)]) hx hb dX9_freeNow_152 hl (by decide) rfl (fun ls hl => ?_)
          refine lv_aload_n hx hb dX9_freeNow_154 rfl (lv_at hl 4 rfl) ?_
          refine lv_aload_n hx hb dX9_freeNow_155 rfl (lv_at hl 4 rfl) ?_
          refine wd_get hC i9 hW 0 wR_c0 rfl 33 (Nat.le_of_ble_eq_true rfl) f322 rfl rfl dX9_freeNow_156 ?_
          refine wd_put hC i9 tyX9_ok nmX9 hW 0 wR_c0 rfl 34 (Nat.le_of_ble_eq_true rfl) f346 rfl rfl rfl rfl (Nat.le_of_ble_eq_true rfl) wR_s0_34 dX9_freeNow_159 (fun H locs hW => ?_)
          obtain ⟨T46, e47, h⟩ := nm_of h
          replace hW := wq_T e47 hW
          refine lv_iload hx hb dX9_freeNow_162 (lv_at hl 0 rfl) ?_
          obtain rfl := Option.some.inj h
          exact wd_iret hA hQ hC hr hk hW dX9_freeNow_164
        · replace h := ite_f h c33
          refine lv_iload_n hx hb dX9_freeNow_79 rfl (lv_at hl 1 rfl) ?_
          refine lv_if_ne (tgt := 90) hx hb dX9_freeNow_80 (by decide) (fun c48 => ?_) (fun c48 => ?_)
          · replace h := ite_f h c48
            refine lv_iload_n hx hb dX9_freeNow_90 rfl (lv_at hl 2 rfl) ?_
            refine lv_iconst (v := 2) hx hb dX9_freeNow_91 (by decide) ?_
            obtain ⟨q50, hq51, h⟩ := bd_of h
            have hJ107 : ∀ (H : Heap) (locs : List Loc) (ls : Array Slot), Wd D cy A s (wR ad cy q50 ++ X) H locs → lv_has ls 6 [(4, .int r15), (3, .int r13), (2, .int (T1.2.1 11 ((0 : Int32).toNatClampNeg))), (0, .ref (ad 0)), (1, .int p0)] → W p l e (RM 5) s m args below meth c H locs 0 0 Q (F0 m 107 ls []) := by
              intro H locs ls hW hl
              refine lv_aload_n hx hb dX9_freeNow_107 rfl (lv_at hl 3 rfl) ?_
              refine lv_iload_n hx hb dX9_freeNow_108 rfl (lv_at hl 2 rfl) ?_
              refine lv_iload_n hx hb dX9_freeNow_109 rfl (lv_at hl 1 rfl) ?_
              refine lv_iload hx hb dX9_freeNow_110 (lv_at hl 0 rfl) ?_
              obtain ⟨r52, hr53, h⟩ := bd_of h
              refine wd_callV1 (As := [.int (T1.2.1 11 ((0 : Int32).toNatClampNeg)), .int r13, .int r15]) hC hW 0 wR_c0 rfl (c_X9_ends l D cy ad X q50 (T1.2.1 11 ((0 : Int32).toNatClampNeg)) r13 r15 r52 hr53) (cwV 3 hts (gu_V w_39_19 w_39_16 w_39_17 w_39_18 w_1_5) rfl rfl rfl hdX9_ends ⟨Nat.le_of_ble_eq_true rfl, Nat.le_of_ble_eq_true rfl⟩) rfl hl.1 rfl (Nat.le_of_ble_eq_true rfl) ⟨Nat.zero_le _, Nat.zero_le _⟩ dX9_freeNow_112 (fun H locs hW => ?_)
              obtain rfl := Option.some.inj h
              exact wd_iret hA hQ hC hr hk hW dX9_freeNow_115
            replace h := hq51
            refine lv_icmp_ge (tgt := 107) hx hb dX9_freeNow_92 (by decide) (fun c49 => ?_) (fun c49 => ?_)
            · replace h := ite_t h c49
              obtain rfl := Option.some.inj h
              exact hJ107 _ _ _ hW (lv_sub hl [0, 1, 2, 3, 4] rfl)
            · replace h := ite_f h c49
              refine lv_aload_n hx hb dX9_freeNow_95 rfl (lv_at hl 3 rfl) ?_
              refine lv_iload_n hx hb dX9_freeNow_96 rfl (lv_at hl 4 rfl) ?_
              refine lv_iload_n hx hb dX9_freeNow_97 rfl (lv_at hl 2 rfl) ?_
              refine lv_iconst (v := 1) hx hb dX9_freeNow_98 (by decide) ?_
              refine lv_iadd hx hb dX9_freeNow_99 ?_
              refine lv_iload hx hb dX9_freeNow_100 (lv_at hl 0 rfl) ?_
              refine lv_iload_n hx hb dX9_freeNow_102 rfl (lv_at hl 1 rfl) ?_
              refine lv_iadd hx hb dX9_freeNow_103 ?_
              obtain ⟨r54, hr55, h⟩ := bd_of h
              refine wd_callV0 (As := [.int p0, .int ((T1.2.1 11 ((0 : Int32).toNatClampNeg)) + 1), .int (r15 + r13)]) hC hW 0 wR_c0 rfl (c_X9_nextLoadOf l D cy ad X n r17 p0 ((T1.2.1 11 ((0 : Int32).toNatClampNeg)) + 1) (r15 + r13) r54 hr55) (cwV 3 hts (gu_V w_40_9 w_40_6 w_40_7 w_40_8 w_1_5) rfl rfl rfl hdX9_nextLoadOf ⟨Nat.le_of_ble_eq_true rfl, Nat.le_of_ble_eq_true rfl⟩) rfl hl.1 rfl (Nat.le_of_ble_eq_true rfl) ⟨Nat.zero_le _, Nat.zero_le _⟩ dX9_freeNow_104 (fun H locs hW => ?_)
              obtain rfl := Option.some.inj h
              exact hJ107 _ _ _ hW (lv_sub hl [0, 1, 2, 3, 4] rfl)
          · replace h := ite_t h c48
            refine lv_aload_n hx hb dX9_freeNow_83 rfl (lv_at hl 3 rfl) ?_
            refine wd_get hC i9 hW 0 wR_c0 rfl 28 (Nat.le_of_ble_eq_true rfl) f56 rfl rfl dX9_freeNow_84 ?_
            refine lv_iconst (v := 0) hx hb dX9_freeNow_87 (by decide) ?_
            obtain ⟨hi56, h⟩ := ck_of h
            refine wd_iald hC hW 16 wR_c16 hi56 dX9_freeNow_88 ?_
            obtain rfl := Option.some.inj h
            exact wd_iret hA hQ hC hr hk hW dX9_freeNow_89
    · replace h := ite_f h c11
      refine lv_aload_n hx hb dX9_freeNow_20 rfl (lv_at hl 0 rfl) ?_
      refine wd_get hC i9 hW 0 wR_c0 rfl 28 (Nat.le_of_ble_eq_true rfl) f56 rfl rfl dX9_freeNow_21 ?_
      refine lv_aload_n hx hb dX9_freeNow_24 rfl (lv_at hl 0 rfl) ?_
      refine lv_iload_n hx hb dX9_freeNow_25 rfl (lv_at hl 1 rfl) ?_
      obtain ⟨r57, hr58, h⟩ := bd_of h
      refine wd_callV1 (As := [.int p0]) hC hW 0 wR_c0 rfl (c_X9_sumOf l D cy ad X T1 p0 r57 hr58) (cwV 1 hts (gu_V w_17_22 w_17_19 w_17_20 w_17_21 w_1_5) rfl rfl rfl hdX9_sumOf ⟨Nat.le_of_ble_eq_true rfl, Nat.le_of_ble_eq_true rfl⟩) rfl hl.1 rfl (Nat.le_of_ble_eq_true rfl) ⟨Nat.zero_le _, Nat.zero_le _⟩ dX9_freeNow_26 (fun H locs hW => ?_)
      obtain ⟨hi59, h⟩ := ck_of h
      refine wd_iald hC hW 16 wR_c16 hi59 dX9_freeNow_29 ?_
      obtain rfl := Option.some.inj h
      exact wd_iret hA hQ hC hr hk hW dX9_freeNow_30
def m_X9_follows_L15 : Nat → St → Int32 → Int32 → Int32 → Int32 → Int32 → Int32 → Int32 → Int32 → Option (St × Int32)
  | 0, _, _, _, _, _, _, _, _, _ => none
  | n + 1, T, x1, x2, x7, x8, x9, x10, x11, x12 =>
    if 3 ≤ x12 then (some (T, x11)) else ((m_X9_in T x9.toInt64 1 40).bind (fun r4 => if r4 = 0 then (some (T, x11)) else ((m_X9_laysRounds n T x1 x2 x12 x7).bind (fun r7 => (m_X9_triesBest n r7 x1 x2 x12 x10 x9 x11).bind (fun r9 => (m_X9_notes r9.2 ((r9.2.1 33).toInt64)).bind (fun r11 => (m_X9_flag r11 x8).bind (fun r13 => ((if x8 = 0 then (some x11) else (some (r11.1 33)) : Option (Int32))).bind (fun q16 => ((if x8 = 0 then (some 1) else (some 0) : Option (Int32))).bind (fun q19 => (m_X9_flag r11 q19).bind (fun r21 => m_X9_follows_L15 n r11 x1 x2 x7 x8 ((r11.1 33) + r13) (x10 + r21) q16 (x12 + 1)))))))))))
theorem m_X9_follows_L15_0 (T : St) (x1 : Int32) (x2 : Int32) (x7 : Int32) (x8 : Int32) (x9 : Int32) (x10 : Int32) (x11 : Int32) (x12 : Int32) : m_X9_follows_L15 0 T x1 x2 x7 x8 x9 x10 x11 x12 = none := rfl
theorem m_X9_follows_L15_s {n : Nat} {T : St} {x1 : Int32} {x2 : Int32} {x7 : Int32} {x8 : Int32} {x9 : Int32} {x10 : Int32} {x11 : Int32} {x12 : Int32} : m_X9_follows_L15 (n + 1) T x1 x2 x7 x8 x9 x10 x11 x12 =
    (if 3 ≤ x12 then (some (T, x11)) else ((m_X9_in T x9.toInt64 1 40).bind (fun r4 => if r4 = 0 then (some (T, x11)) else ((m_X9_laysRounds n T x1 x2 x12 x7).bind (fun r7 => (m_X9_triesBest n r7 x1 x2 x12 x10 x9 x11).bind (fun r9 => (m_X9_notes r9.2 ((r9.2.1 33).toInt64)).bind (fun r11 => (m_X9_flag r11 x8).bind (fun r13 => ((if x8 = 0 then (some x11) else (some (r11.1 33)) : Option (Int32))).bind (fun q16 => ((if x8 = 0 then (some 1) else (some 0) : Option (Int32))).bind (fun q19 => (m_X9_flag r11 q19).bind (fun r21 => m_X9_follows_L15 n r11 x1 x2 x7 x8 ((r11.1 33) + r13) (x10 + r21) q16 (x12 + 1)))))))))))) := rfl
def m_X9_follows (n : Nat) (T : St) (p0 : Int32) (p1 : Int32) (p2 : Int32) (p3 : Int32) (p4 : Int32) (p5 : Int32) (p6 : Int32) (p7 : Int32) : Option (Int32 × St) :=
  (m_X9_follows_L15 n T p0 p1 p6 p7 p3 p4 p5 p2).bind (fun q1 => some (q1.2, q1.1))
set_option maxHeartbeats 4000000 in
set_option maxRecDepth 100000 in
theorem c_X9_follows (l : Launch) (D : va_G) (cy : Nat → ClassId) (ad : Nat → Nat) (X : va_W) (n : Nat) (T : St) (p0 : Int32) (p1 : Int32) (p2 : Int32) (p3 : Int32) (p4 : Int32) (p5 : Int32) (p6 : Int32) (p7 : Int32) (r : (Int32 × St)) (h : m_X9_follows n T p0 p1 p2 p3 p4 p5 p6 p7 = some r) : CT l yX9_follows (wu yX9_follows cX9_follows 13 (some .int)) 4 D cy [.ref (ad 0), .int p0, .int p1, .int p2, .int p3, .int p4, .int p5, .int p6, .int p7] (wR ad cy T ++ X) (some (.int r.1)) (wR ad cy r.2 ++ X) := by
  refine CT.mk (cc := cX9_follows) (maxL := 13) (ret := (some .int)) (own := RX9) (by decide) rfl rfl (Nat.le_of_ble_eq_true rfl) ?_
  intro p e s m args below meth c ls A Q hA hQ hC hr hk hW hl
  have hx := hC.1
  have hb := hC.2.1
  have hown := hC.2.2.2.1
  have hts := hC.2.2.2.2
  have hl : lv_has ls 13 [(0, .ref (ad 0)), (1, .int p0), (2, .int p1), (3, .int p2), (4, .int p3), (5, .int p4), (6, .int p5), (7, .int p6), (8, .int p7)] := hl
  have k239 := hts _ (wu_in w_14_0)
  have f322 := hts _ (wu_in w_39_4)
  have i9 := (fun w h => wu_in (inc_9 w h) : ∀ w ∈ u_ws RX9 TX9 40, w ∈ (wu yX9_follows cX9_follows 13 (some .int)))
  unfold m_X9_follows at h
  refine lv_iload hx hb dX9_follows_0 (lv_at hl 4 rfl) ?_
  refine lv_istore (lv' := [(9, .int p3), (0, .ref (ad 0)), (1, .int p0), (2, .int p1), (3, .int p2), (4, .int p3), (5, .int p4), (6, .int p5), (7, .int p6), (8, .int p7)]) hx hb dX9_follows_2 hl (by decide) rfl (fun ls hl => ?_)
  refine lv_iload hx hb dX9_follows_4 (lv_at hl 6 rfl) ?_
  refine lv_istore (lv' := [(10, .int p4), (9, .int p3), (0, .ref (ad 0)), (1, .int p0), (2, .int p1), (3, .int p2), (4, .int p3), (5, .int p4), (6, .int p5), (7, .int p6), (8, .int p7)]) hx hb dX9_follows_6 hl (by decide) rfl (fun ls hl => ?_)
  refine lv_iload hx hb dX9_follows_8 (lv_at hl 8 rfl) ?_
  refine lv_istore (lv' := [(11, .int p5), (10, .int p4), (9, .int p3), (0, .ref (ad 0)), (1, .int p0), (2, .int p1), (3, .int p2), (4, .int p3), (5, .int p4), (6, .int p5), (7, .int p6), (8, .int p7)]) hx hb dX9_follows_10 hl (by decide) rfl (fun ls hl => ?_)
  refine lv_iload_n hx hb dX9_follows_12 rfl (lv_at hl 6 rfl) ?_
  refine lv_istore (lv' := [(12, .int p2), (11, .int p5), (10, .int p4), (9, .int p3), (0, .ref (ad 0)), (1, .int p0), (2, .int p1), (3, .int p2), (4, .int p3), (5, .int p4), (6, .int p5), (7, .int p6), (8, .int p7)]) hx hb dX9_follows_13 hl (by decide) rfl (fun ls hl => ?_)
  have hL15 : ∀ (n : Nat) (T : St) (x1 : Int32) (x2 : Int32) (x7 : Int32) (x8 : Int32) (x9 : Int32) (x10 : Int32) (x11 : Int32) (x12 : Int32)  (H : Heap) (locs : List Loc) (ls : Array Slot) (r : (St × Int32)), m_X9_follows_L15 n T x1 x2 x7 x8 x9 x10 x11 x12 = some r → Wd D cy A s (wR ad cy T ++ X) H locs → lv_has ls 13 [(0, .ref (ad 0)), (1, .int x1), (2, .int x2), (7, .int x7), (8, .int x8), (9, .int x9), (10, .int x10), (11, .int x11), (12, .int x12)] → (∀ (H : Heap) (locs : List Loc) (ls : Array Slot), Wd D cy A s (wR ad cy r.1 ++ X) H locs → lv_has ls 13 [(0, .ref (ad 0)), (1, .int x1), (2, .int x2), (7, .int x7), (8, .int x8), (11, .int r.2)] → W p l e (RM 4) s m args below meth c H locs 0 0 Q (F0 m 120 ls [])) → W p l e (RM 4) s m args below meth c H locs 0 0 Q (F0 m 15 ls []) := by
    intro n
    induction n with
    | zero =>
      intro T x1 x2 x7 x8 x9 x10 x11 x12  H locs ls r h
      exact absurd (h.symm.trans (m_X9_follows_L15_0 ..)) (by simp)
    | succ n ih =>
      intro T x1 x2 x7 x8 x9 x10 x11 x12  H locs ls r h hW hl kk
      rw [m_X9_follows_L15_s] at h
      refine lv_iload hx hb dX9_follows_15 (lv_at hl 8 rfl) ?_
      refine lv_iconst (v := 3) hx hb dX9_follows_17 (by decide) ?_
      refine lv_icmp_ge (tgt := 120) hx hb dX9_follows_18 (by decide) (fun c3 => ?_) (fun c3 => ?_)
      · replace h := ite_t h c3
        obtain rfl := Option.some.inj h
        exact kk _ _ _ hW (lv_sub hl [0, 1, 2, 3, 4, 7] rfl)
      · replace h := ite_f h c3
        refine lv_iload hx hb dX9_follows_21 (lv_at hl 5 rfl) ?_
        refine lv_i2l (v := x9.toInt64) hx hb dX9_follows_23 rfl ?_
        refine lv_lconst (v := 1) hx hb dX9_follows_24 (by decide) ?_
        refine lv_ldc2 hx hb hown k239 dX9_follows_25 ?_
        obtain ⟨r4, hr5, h⟩ := bd_of h
        refine wd_callS1 (As := [.long x9.toInt64, .long 1, .long 40]) hC hW (c_X9_in l D cy ad X T x9.toInt64 1 40 r4 hr5) (va_cwS 3 hts (gu_S w_7_6 w_7_4 w_7_5 w_1_5) rfl rfl rfl hdX9_in ⟨Nat.le_of_ble_eq_true rfl, Nat.le_of_ble_eq_true rfl⟩) rfl hl.1 rfl (Nat.le_of_ble_eq_true rfl) ⟨Nat.zero_le _, Nat.zero_le _⟩ dX9_follows_28 (fun H locs hW => ?_)
        refine lv_if_eq (tgt := 120) hx hb dX9_follows_31 (by decide) (fun c6 => ?_) (fun c6 => ?_)
        · replace h := ite_t h c6
          obtain rfl := Option.some.inj h
          exact kk _ _ _ hW (lv_sub hl [0, 1, 2, 3, 4, 7] rfl)
        · replace h := ite_f h c6
          refine lv_aload_n hx hb dX9_follows_34 rfl (lv_at hl 0 rfl) ?_
          refine lv_iload_n hx hb dX9_follows_35 rfl (lv_at hl 1 rfl) ?_
          refine lv_iload_n hx hb dX9_follows_36 rfl (lv_at hl 2 rfl) ?_
          refine lv_iload hx hb dX9_follows_37 (lv_at hl 8 rfl) ?_
          refine lv_iload hx hb dX9_follows_39 (lv_at hl 3 rfl) ?_
          obtain ⟨r7, hr8, h⟩ := bd_of h
          refine wd_callV0 (As := [.int x1, .int x2, .int x12, .int x7]) hC hW 0 wR_c0 rfl (c_X9_laysRounds l D cy ad X n T x1 x2 x12 x7 r7 hr8) (cwV 4 hts (gu_V w_39_12 w_39_9 w_39_10 w_39_11 w_1_5) rfl rfl rfl hdX9_laysRounds ⟨Nat.le_of_ble_eq_true rfl, Nat.le_of_ble_eq_true rfl⟩) rfl hl.1 rfl (Nat.le_of_ble_eq_true rfl) ⟨Nat.zero_le _, Nat.zero_le _⟩ dX9_follows_41 (fun H locs hW => ?_)
          refine lv_aload_n hx hb dX9_follows_44 rfl (lv_at hl 0 rfl) ?_
          refine lv_iload_n hx hb dX9_follows_45 rfl (lv_at hl 1 rfl) ?_
          refine lv_iload_n hx hb dX9_follows_46 rfl (lv_at hl 2 rfl) ?_
          refine lv_iload hx hb dX9_follows_47 (lv_at hl 8 rfl) ?_
          refine lv_iload hx hb dX9_follows_49 (lv_at hl 6 rfl) ?_
          refine lv_iload hx hb dX9_follows_51 (lv_at hl 5 rfl) ?_
          refine lv_iload hx hb dX9_follows_53 (lv_at hl 7 rfl) ?_
          obtain ⟨r9, hr10, h⟩ := bd_of h
          refine wd_callV1 (As := [.int x1, .int x2, .int x12, .int x10, .int x9, .int x11]) hC hW 0 wR_c0 rfl (c_X9_triesBest l D cy ad X n r7 x1 x2 x12 x10 x9 x11 r9 hr10) (cwV 6 hts (gu_V w_39_23 w_39_20 w_39_21 w_39_22 w_1_5) rfl rfl rfl hdX9_triesBest ⟨Nat.le_of_ble_eq_true rfl, Nat.le_of_ble_eq_true rfl⟩) rfl hl.1 rfl (Nat.le_of_ble_eq_true rfl) ⟨Nat.zero_le _, Nat.zero_le _⟩ dX9_follows_55 (fun H locs hW => ?_)
          refine lv_pop hx hb dX9_follows_58 rfl ?_
          refine lv_aload_n hx hb dX9_follows_59 rfl (lv_at hl 0 rfl) ?_
          refine lv_aload_n hx hb dX9_follows_60 rfl (lv_at hl 0 rfl) ?_
          refine wd_get hC i9 hW 0 wR_c0 rfl 33 (Nat.le_of_ble_eq_true rfl) f322 rfl rfl dX9_follows_61 ?_
          refine lv_i2l (v := (r9.2.1 33).toInt64) hx hb dX9_follows_64 rfl ?_
          obtain ⟨r11, hr12, h⟩ := bd_of h
          refine wd_callV0 (As := [.long ((r9.2.1 33).toInt64)]) hC hW 0 wR_c0 rfl (c_X9_notes l D cy ad X r9.2 ((r9.2.1 33).toInt64) r11 hr12) (cwV 1 hts (gu_V w_19_14 w_19_11 w_19_12 w_19_13 w_1_5) rfl rfl rfl hdX9_notes ⟨Nat.le_of_ble_eq_true rfl, Nat.le_of_ble_eq_true rfl⟩) rfl hl.1 rfl (Nat.le_of_ble_eq_true rfl) ⟨Nat.zero_le _, Nat.zero_le _⟩ dX9_follows_65 (fun H locs hW => ?_)
          refine lv_aload_n hx hb dX9_follows_68 rfl (lv_at hl 0 rfl) ?_
          refine wd_get hC i9 hW 0 wR_c0 rfl 33 (Nat.le_of_ble_eq_true rfl) f322 rfl rfl dX9_follows_69 ?_
          refine lv_iload hx hb dX9_follows_72 (lv_at hl 4 rfl) ?_
          obtain ⟨r13, hr14, h⟩ := bd_of h
          refine wd_callS1 (As := [.int x8]) hC hW (c_X9_flag l D cy ad X r11 x8 r13 hr14) (va_cwS 1 hts (gu_S w_17_18 w_17_16 w_17_17 w_1_5) rfl rfl rfl hdX9_flag ⟨Nat.le_of_ble_eq_true rfl, Nat.le_of_ble_eq_true rfl⟩) rfl hl.1 rfl (Nat.le_of_ble_eq_true rfl) ⟨Nat.zero_le _, Nat.zero_le _⟩ dX9_follows_74 (fun H locs hW => ?_)
          refine lv_iadd hx hb dX9_follows_77 ?_
          refine lv_istore (lv' := [(9, .int ((r11.1 33) + r13)), (0, .ref (ad 0)), (1, .int x1), (2, .int x2), (7, .int x7), (8, .int x8), (10, .int x10), (11, .int x11), (12, .int x12)]) hx hb dX9_follows_78 hl (by decide) rfl (fun ls hl => ?_)
          refine lv_iload hx hb dX9_follows_80 (lv_at hl 5 rfl) ?_
          obtain ⟨q16, hq17, h⟩ := bd_of h
          have hJ94 : ∀ (H : Heap) (locs : List Loc) (ls : Array Slot), Wd D cy A s (wR ad cy r11 ++ X) H locs → lv_has ls 13 [(9, .int ((r11.1 33) + r13)), (0, .ref (ad 0)), (1, .int x1), (2, .int x2), (7, .int x7), (8, .int x8), (10, .int x10), (11, .int x11), (12, .int x12)] → W p l e (RM 4) s m args below meth c H locs 0 0 Q (F0 m 94 ls [.int q16]) := by
            intro H locs ls hW hl
            refine lv_istore (lv' := [(11, .int q16), (9, .int ((r11.1 33) + r13)), (0, .ref (ad 0)), (1, .int x1), (2, .int x2), (7, .int x7), (8, .int x8), (10, .int x10), (12, .int x12)]) hx hb dX9_follows_94 hl (by decide) rfl (fun ls hl => ?_)
            refine lv_iload hx hb dX9_follows_96 (lv_at hl 7 rfl) ?_
            refine lv_iload hx hb dX9_follows_98 (lv_at hl 6 rfl) ?_
            obtain ⟨q19, hq20, h⟩ := bd_of h
            have hJ108 : ∀ (H : Heap) (locs : List Loc) (ls : Array Slot), Wd D cy A s (wR ad cy r11 ++ X) H locs → lv_has ls 13 [(11, .int q16), (9, .int ((r11.1 33) + r13)), (0, .ref (ad 0)), (1, .int x1), (2, .int x2), (7, .int x7), (8, .int x8), (10, .int x10), (12, .int x12)] → W p l e (RM 4) s m args below meth c H locs 0 0 Q (F0 m 108 ls [.int q19, .int x10]) := by
              intro H locs ls hW hl
              obtain ⟨r21, hr22, h⟩ := bd_of h
              refine wd_callS1 (As := [.int q19]) hC hW (c_X9_flag l D cy ad X r11 q19 r21 hr22) (va_cwS 1 hts (gu_S w_17_18 w_17_16 w_17_17 w_1_5) rfl rfl rfl hdX9_flag ⟨Nat.le_of_ble_eq_true rfl, Nat.le_of_ble_eq_true rfl⟩) rfl hl.1 rfl (Nat.le_of_ble_eq_true rfl) ⟨Nat.zero_le _, Nat.zero_le _⟩ dX9_follows_108 (fun H locs hW => ?_)
              refine lv_iadd hx hb dX9_follows_111 ?_
              refine lv_istore (lv' := [(10, .int (x10 + r21)), (11, .int q16), (9, .int ((r11.1 33) + r13)), (0, .ref (ad 0)), (1, .int x1), (2, .int x2), (7, .int x7), (8, .int x8), (12, .int x12)]) hx hb dX9_follows_112 hl (by decide) rfl (fun ls hl => ?_)
              refine lv_iinc (v := x12 + 1) (lv' := [(12, .int (x12 + 1)), (10, .int (x10 + r21)), (11, .int q16), (9, .int ((r11.1 33) + r13)), (0, .ref (ad 0)), (1, .int x1), (2, .int x2), (7, .int x7), (8, .int x8)]) hx hb dX9_follows_114 hl (k := 8) rfl rfl (by decide) rfl (fun ls hl => ?_)
              refine lv_goto (tgt := 15) hx hb dX9_follows_117 (by decide) ?_
              exact ih r11 x1 x2 x7 x8 ((r11.1 33) + r13) (x10 + r21) q16 (x12 + 1) _ _ _ r h hW (lv_sub hl [4, 5, 6, 7, 8, 3, 1, 2, 0] rfl) kk
            replace h := hq20
            refine lv_if_ne (tgt := 107) hx hb dX9_follows_100 (by decide) (fun c18 => ?_) (fun c18 => ?_)
            · replace h := ite_f h c18
              refine lv_iconst (v := 0) hx hb dX9_follows_107 (by decide) ?_
              obtain rfl := Option.some.inj h
              exact hJ108 _ _ _ hW (lv_sub hl [0, 1, 2, 3, 4, 5, 6, 7, 8] rfl)
            · replace h := ite_t h c18
              refine lv_iconst (v := 1) hx hb dX9_follows_103 (by decide) ?_
              refine lv_goto (tgt := 108) hx hb dX9_follows_104 (by decide) ?_
              obtain rfl := Option.some.inj h
              exact hJ108 _ _ _ hW (lv_sub hl [0, 1, 2, 3, 4, 5, 6, 7, 8] rfl)
          replace h := hq17
          refine lv_if_eq (tgt := 92) hx hb dX9_follows_82 (by decide) (fun c15 => ?_) (fun c15 => ?_)
          · replace h := ite_t h c15
            refine lv_iload hx hb dX9_follows_92 (lv_at hl 7 rfl) ?_
            obtain rfl := Option.some.inj h
            exact hJ94 _ _ _ hW (lv_sub hl [0, 1, 2, 3, 4, 5, 6, 7, 8] rfl)
          · replace h := ite_f h c15
            refine lv_aload_n hx hb dX9_follows_85 rfl (lv_at hl 1 rfl) ?_
            refine wd_get hC i9 hW 0 wR_c0 rfl 33 (Nat.le_of_ble_eq_true rfl) f322 rfl rfl dX9_follows_86 ?_
            refine lv_goto (tgt := 94) hx hb dX9_follows_89 (by decide) ?_
            obtain rfl := Option.some.inj h
            exact hJ94 _ _ _ hW (lv_sub hl [0, 1, 2, 3, 4, 5, 6, 7, 8] rfl)
  obtain ⟨q1, hq2, h⟩ := bd_of h
  refine hL15 n T p0 p1 p6 p7 p3 p4 p5 p2  _ _ _ q1 hq2 hW (lv_sub hl [4, 5, 6, 11, 12, 3, 2, 1, 0] rfl) (fun H locs ls hW hl => ?_)
  refine lv_iload hx hb dX9_follows_120 (lv_at hl 5 rfl) ?_
  obtain rfl := Option.some.inj h
  exact wd_iret hA hQ hC hr hk hW dX9_follows_122
def m_X9_duelEnds (n : Nat) (T : St) (p0 : Int32) (p1 : Int32) : Option (Int32) :=
  if p0 = 0 then (if p0 ≤ 0 then (some 0) else (some 1000000)) else (if p1 = 0 then (if p0 ≤ 0 then (some 0) else (some 1000000)) else ((m_X9_sumAhead n T (T.1 35)).bind (fun r4 => (m_X9_sumAhead n T (T.1 36)).bind (fun r6 => if (r6 + p1) < (r4 + p0) then (some 1000000) else (if (r4 + p0) = (r6 + p1) then ((m_X9_isLighter T (T.1 35) (T.1 36)).bind (fun r10 => if r10 = 0 then (some 0) else (some 1000000))) else (some 0))))))
set_option maxHeartbeats 4000000 in
set_option maxRecDepth 100000 in
theorem c_X9_duelEnds (l : Launch) (D : va_G) (cy : Nat → ClassId) (ad : Nat → Nat) (X : va_W) (n : Nat) (T : St) (p0 : Int32) (p1 : Int32) (r : (Int32)) (h : m_X9_duelEnds n T p0 p1 = some r) : CT l yX9_duelEnds (wu yX9_duelEnds cX9_duelEnds 5 (some .int)) 2 D cy [.ref (ad 0), .int p0, .int p1] (wR ad cy T ++ X) (some (.int r)) (wR ad cy T ++ X) := by
  refine CT.mk (cc := cX9_duelEnds) (maxL := 5) (ret := (some .int)) (own := RX9) (by decide) rfl rfl (Nat.le_of_ble_eq_true rfl) ?_
  intro p e s m args below meth c ls A Q hA hQ hC hr hk hW hl
  have hx := hC.1
  have hb := hC.2.1
  have hown := hC.2.2.2.1
  have hts := hC.2.2.2.2
  have hl : lv_has ls 5 [(0, .ref (ad 0)), (1, .int p0), (2, .int p1)] := hl
  have k264 := hts _ (wu_in w_30_12)
  have f365 := hts _ (wu_in w_46_12)
  have i9 := (fun w h => wu_in (inc_9 w h) : ∀ w ∈ u_ws RX9 TX9 40, w ∈ (wu yX9_duelEnds cX9_duelEnds 5 (some .int)))
  have f368 := hts _ (wu_in w_46_13)
  unfold m_X9_duelEnds at h
  refine lv_iload_n hx hb dX9_duelEnds_0 rfl (lv_at hl 1 rfl) ?_
  refine lv_if_eq (tgt := 8) hx hb dX9_duelEnds_1 (by decide) (fun c1 => ?_) (fun c1 => ?_)
  · replace h := ite_t h c1
    refine lv_iload_n hx hb dX9_duelEnds_8 rfl (lv_at hl 1 rfl) ?_
    refine lv_if_le (tgt := 18) hx hb dX9_duelEnds_9 (by decide) (fun c2 => ?_) (fun c2 => ?_)
    · replace h := ite_t h c2
      refine lv_iconst (v := 0) hx hb dX9_duelEnds_18 (by decide) ?_
      obtain rfl := Option.some.inj h
      exact wd_iret hA hQ hC hr hk hW dX9_duelEnds_19
    · replace h := ite_f h c2
      refine lv_ldcw hx hb hown k264 dX9_duelEnds_12 ?_
      refine lv_goto (tgt := 19) hx hb dX9_duelEnds_15 (by decide) ?_
      obtain rfl := Option.some.inj h
      exact wd_iret hA hQ hC hr hk hW dX9_duelEnds_19
  · replace h := ite_f h c1
    refine lv_iload_n hx hb dX9_duelEnds_4 rfl (lv_at hl 2 rfl) ?_
    refine lv_if_ne (tgt := 20) hx hb dX9_duelEnds_5 (by decide) (fun c3 => ?_) (fun c3 => ?_)
    · replace h := ite_f h c3
      refine lv_aload_n hx hb dX9_duelEnds_20 rfl (lv_at hl 0 rfl) ?_
      refine lv_aload_n hx hb dX9_duelEnds_21 rfl (lv_at hl 0 rfl) ?_
      refine wd_get hC i9 hW 0 wR_c0 rfl 35 (Nat.le_of_ble_eq_true rfl) f365 rfl rfl dX9_duelEnds_22 ?_
      obtain ⟨r4, hr5, h⟩ := bd_of h
      refine wd_callV1 (As := [.int (T.1 35)]) hC hW 0 wR_c0 rfl (c_X9_sumAhead l D cy ad X n T (T.1 35) r4 hr5) (cwV 1 hts (gu_V w_28_19 w_28_16 w_28_17 w_28_18 w_1_5) rfl rfl rfl hdX9_sumAhead ⟨Nat.le_of_ble_eq_true rfl, Nat.le_of_ble_eq_true rfl⟩) rfl hl.1 rfl (Nat.le_of_ble_eq_true rfl) ⟨Nat.zero_le _, Nat.zero_le _⟩ dX9_duelEnds_25 (fun H locs hW => ?_)
      refine lv_iload_n hx hb dX9_duelEnds_28 rfl (lv_at hl 1 rfl) ?_
      refine lv_iadd hx hb dX9_duelEnds_29 ?_
      refine lv_istore_n (lv' := [(3, .int (r4 + p0)), (0, .ref (ad 0)), (1, .int p0), (2, .int p1)]) hx hb dX9_duelEnds_30 rfl hl (by decide) rfl (fun ls hl => ?_)
      refine lv_aload_n hx hb dX9_duelEnds_31 rfl (lv_at hl 1 rfl) ?_
      refine lv_aload_n hx hb dX9_duelEnds_32 rfl (lv_at hl 1 rfl) ?_
      refine wd_get hC i9 hW 0 wR_c0 rfl 36 (Nat.le_of_ble_eq_true rfl) f368 rfl rfl dX9_duelEnds_33 ?_
      obtain ⟨r6, hr7, h⟩ := bd_of h
      refine wd_callV1 (As := [.int (T.1 36)]) hC hW 0 wR_c0 rfl (c_X9_sumAhead l D cy ad X n T (T.1 36) r6 hr7) (cwV 1 hts (gu_V w_28_19 w_28_16 w_28_17 w_28_18 w_1_5) rfl rfl rfl hdX9_sumAhead ⟨Nat.le_of_ble_eq_true rfl, Nat.le_of_ble_eq_true rfl⟩) rfl hl.1 rfl (Nat.le_of_ble_eq_true rfl) ⟨Nat.zero_le _, Nat.zero_le _⟩ dX9_duelEnds_36 (fun H locs hW => ?_)
      refine lv_iload_n hx hb dX9_duelEnds_39 rfl (lv_at hl 3 rfl) ?_
      refine lv_iadd hx hb dX9_duelEnds_40 ?_
      refine lv_istore (lv' := [(4, .int (r6 + p1)), (3, .int (r4 + p0)), (0, .ref (ad 0)), (1, .int p0), (2, .int p1)]) hx hb dX9_duelEnds_41 hl (by decide) rfl (fun ls hl => ?_)
      refine lv_iload_n hx hb dX9_duelEnds_43 rfl (lv_at hl 1 rfl) ?_
      refine lv_iload hx hb dX9_duelEnds_44 (lv_at hl 0 rfl) ?_
      refine lv_icmp_gt (tgt := 70) hx hb dX9_duelEnds_46 (by decide) (fun c8 => ?_) (fun c8 => ?_)
      · replace h := ite_t h c8
        refine lv_ldcw hx hb hown k264 dX9_duelEnds_70 ?_
        refine lv_goto (tgt := 77) hx hb dX9_duelEnds_73 (by decide) ?_
        obtain rfl := Option.some.inj h
        exact wd_iret hA hQ hC hr hk hW dX9_duelEnds_77
      · replace h := ite_f h c8
        refine lv_iload_n hx hb dX9_duelEnds_49 rfl (lv_at hl 1 rfl) ?_
        refine lv_iload hx hb dX9_duelEnds_50 (lv_at hl 0 rfl) ?_
        refine lv_icmp_ne (tgt := 76) hx hb dX9_duelEnds_52 (by decide) (fun c9 => ?_) (fun c9 => ?_)
        · replace h := ite_f h c9
          refine lv_iconst (v := 0) hx hb dX9_duelEnds_76 (by decide) ?_
          obtain rfl := Option.some.inj h
          exact wd_iret hA hQ hC hr hk hW dX9_duelEnds_77
        · replace h := ite_t h c9
          refine lv_aload_n hx hb dX9_duelEnds_55 rfl (lv_at hl 2 rfl) ?_
          refine lv_aload_n hx hb dX9_duelEnds_56 rfl (lv_at hl 2 rfl) ?_
          refine wd_get hC i9 hW 0 wR_c0 rfl 35 (Nat.le_of_ble_eq_true rfl) f365 rfl rfl dX9_duelEnds_57 ?_
          refine lv_aload_n hx hb dX9_duelEnds_60 rfl (lv_at hl 2 rfl) ?_
          refine wd_get hC i9 hW 0 wR_c0 rfl 36 (Nat.le_of_ble_eq_true rfl) f368 rfl rfl dX9_duelEnds_61 ?_
          obtain ⟨r10, hr11, h⟩ := bd_of h
          refine wd_callV1 (As := [.int (T.1 35), .int (T.1 36)]) hC hW 0 wR_c0 rfl (c_X9_isLighter l D cy ad X T (T.1 35) (T.1 36) r10 hr11) (cwV 2 hts (gu_V w_24_7 w_24_4 w_24_5 w_24_6 w_1_5) rfl rfl rfl hdX9_isLighter ⟨Nat.le_of_ble_eq_true rfl, Nat.le_of_ble_eq_true rfl⟩) rfl hl.1 rfl (Nat.le_of_ble_eq_true rfl) ⟨Nat.zero_le _, Nat.zero_le _⟩ dX9_duelEnds_64 (fun H locs hW => ?_)
          refine lv_if_eq (tgt := 76) hx hb dX9_duelEnds_67 (by decide) (fun c12 => ?_) (fun c12 => ?_)
          · replace h := ite_t h c12
            refine lv_iconst (v := 0) hx hb dX9_duelEnds_76 (by decide) ?_
            obtain rfl := Option.some.inj h
            exact wd_iret hA hQ hC hr hk hW dX9_duelEnds_77
          · replace h := ite_f h c12
            refine lv_ldcw hx hb hown k264 dX9_duelEnds_70 ?_
            refine lv_goto (tgt := 77) hx hb dX9_duelEnds_73 (by decide) ?_
            obtain rfl := Option.some.inj h
            exact wd_iret hA hQ hC hr hk hW dX9_duelEnds_77
    · replace h := ite_t h c3
      refine lv_iload_n hx hb dX9_duelEnds_8 rfl (lv_at hl 1 rfl) ?_
      refine lv_if_le (tgt := 18) hx hb dX9_duelEnds_9 (by decide) (fun c13 => ?_) (fun c13 => ?_)
      · replace h := ite_t h c13
        refine lv_iconst (v := 0) hx hb dX9_duelEnds_18 (by decide) ?_
        obtain rfl := Option.some.inj h
        exact wd_iret hA hQ hC hr hk hW dX9_duelEnds_19
      · replace h := ite_f h c13
        refine lv_ldcw hx hb hown k264 dX9_duelEnds_12 ?_
        refine lv_goto (tgt := 19) hx hb dX9_duelEnds_15 (by decide) ?_
        obtain rfl := Option.some.inj h
        exact wd_iret hA hQ hC hr hk hW dX9_duelEnds_19
def m_X9_duelBest (T : St) (p0 : Int32) (p1 : Int32) (p2 : Int32) : Option (Int32) :=
  (m_X9_of T p0 9).bind (fun r1 => if p2 = 0 then (some r1) else (some (mx r1 p1)))
set_option maxHeartbeats 4000000 in
set_option maxRecDepth 100000 in
theorem c_X9_duelBest (l : Launch) (D : va_G) (cy : Nat → ClassId) (ad : Nat → Nat) (X : va_W) (T : St) (p0 : Int32) (p1 : Int32) (p2 : Int32) (r : (Int32)) (h : m_X9_duelBest T p0 p1 p2 = some r) : CT l yX9_duelBest (wu yX9_duelBest cX9_duelBest 5 (some .int)) 1 D cy [.ref (ad 0), .int p0, .int p1, .int p2] (wR ad cy T ++ X) (some (.int r)) (wR ad cy T ++ X) := by
  refine CT.mk (cc := cX9_duelBest) (maxL := 5) (ret := (some .int)) (own := RX9) (by decide) rfl rfl (Nat.le_of_ble_eq_true rfl) ?_
  intro p e s m args below meth c ls A Q hA hQ hC hr hk hW hl
  have hx := hC.1
  have hb := hC.2.1
  have hown := hC.2.2.2.1
  have hts := hC.2.2.2.2
  have hl : lv_has ls 5 [(0, .ref (ad 0)), (1, .int p0), (2, .int p1), (3, .int p2)] := hl
  have ml100 := hts _ (wu_in w_16_0)
  have msmax := hts _ (wu_in w_15_13)
  have mi := hts _ (wu_in w_15_14)
  have mcmax := hts _ (wu_in w_15_15)
  unfold m_X9_duelBest at h
  refine lv_aload_n hx hb dX9_duelBest_0 rfl (lv_at hl 0 rfl) ?_
  refine lv_iload_n hx hb dX9_duelBest_1 rfl (lv_at hl 1 rfl) ?_
  refine lv_bipush (v := 9) hx hb dX9_duelBest_2 (by decide) ?_
  obtain ⟨r1, hr2, h⟩ := bd_of h
  refine wd_callV1 (As := [.int p0, .int 9]) hC hW 0 wR_c0 rfl (c_X9_of l D cy ad X T p0 9 r1 hr2) (cwV 2 hts (gu_V w_12_0 w_11_21 w_11_22 w_11_23 w_1_5) rfl rfl rfl hdX9_of ⟨Nat.le_of_ble_eq_true rfl, Nat.le_of_ble_eq_true rfl⟩) rfl hl.1 rfl (Nat.le_of_ble_eq_true rfl) ⟨Nat.zero_le _, Nat.zero_le _⟩ dX9_duelBest_4 (fun H locs hW => ?_)
  refine lv_istore (lv' := [(4, .int r1), (0, .ref (ad 0)), (1, .int p0), (2, .int p1), (3, .int p2)]) hx hb dX9_duelBest_7 hl (by decide) rfl (fun ls hl => ?_)
  refine lv_iload_n hx hb dX9_duelBest_9 rfl (lv_at hl 4 rfl) ?_
  refine lv_if_eq (tgt := 22) hx hb dX9_duelBest_10 (by decide) (fun c3 => ?_) (fun c3 => ?_)
  · replace h := ite_t h c3
    refine lv_iload hx hb dX9_duelBest_22 (lv_at hl 0 rfl) ?_
    obtain rfl := Option.some.inj h
    exact wd_iret hA hQ hC hr hk hW dX9_duelBest_24
  · replace h := ite_f h c3
    refine lv_iload hx hb dX9_duelBest_13 (lv_at hl 0 rfl) ?_
    refine lv_iload_n hx hb dX9_duelBest_15 rfl (lv_at hl 3 rfl) ?_
    refine wd_max hC hl.1 ml100 msmax mi mcmax (Nat.le_of_ble_eq_true rfl) (Nat.le_of_ble_eq_true rfl) (Nat.zero_le _) (Nat.zero_le _) dX9_duelBest_16 ?_
    refine lv_goto (tgt := 24) hx hb dX9_duelBest_19 (by decide) ?_
    obtain rfl := Option.some.inj h
    exact wd_iret hA hQ hC hr hk hW dX9_duelBest_24
def m_X9_duelTry (n : Nat) (T : St) (p0 : Int32) (p1 : Int32) (p2 : Int32) (p3 : Int32) : Option (Int32) :=
  (m_X9_of T p0 4).bind (fun r1 => (m_X9_oddsOf n T p0 2 p1 r1).bind (fun r3 => (m_X9_expected T r3 p2 p3).bind (fun r5 => some r5)))
set_option maxHeartbeats 4000000 in
set_option maxRecDepth 100000 in
theorem c_X9_duelTry (l : Launch) (D : va_G) (cy : Nat → ClassId) (ad : Nat → Nat) (X : va_W) (n : Nat) (T : St) (p0 : Int32) (p1 : Int32) (p2 : Int32) (p3 : Int32) (r : (Int32)) (h : m_X9_duelTry n T p0 p1 p2 p3 = some r) : CT l yX9_duelTry (wu yX9_duelTry cX9_duelTry 5 (some .int)) 2 D cy [.ref (ad 0), .int p0, .int p1, .int p2, .int p3] (wR ad cy T ++ X) (some (.int r)) (wR ad cy T ++ X) := by
  refine CT.mk (cc := cX9_duelTry) (maxL := 5) (ret := (some .int)) (own := RX9) (by decide) rfl rfl (Nat.le_of_ble_eq_true rfl) ?_
  intro p e s m args below meth c ls A Q hA hQ hC hr hk hW hl
  have hx := hC.1
  have hb := hC.2.1
  have hown := hC.2.2.2.1
  have hts := hC.2.2.2.2
  have hl : lv_has ls 5 [(0, .ref (ad 0)), (1, .int p0), (2, .int p1), (3, .int p2), (4, .int p3)] := hl
  unfold m_X9_duelTry at h
  refine lv_aload_n hx hb dX9_duelTry_0 rfl (lv_at hl 0 rfl) ?_
  refine lv_iload_n hx hb dX9_duelTry_1 rfl (lv_at hl 1 rfl) ?_
  refine lv_iconst (v := 2) hx hb dX9_duelTry_2 (by decide) ?_
  refine lv_iload_n hx hb dX9_duelTry_3 rfl (lv_at hl 2 rfl) ?_
  refine lv_aload_n hx hb dX9_duelTry_4 rfl (lv_at hl 0 rfl) ?_
  refine lv_iload_n hx hb dX9_duelTry_5 rfl (lv_at hl 1 rfl) ?_
  refine lv_iconst (v := 4) hx hb dX9_duelTry_6 (by decide) ?_
  obtain ⟨r1, hr2, h⟩ := bd_of h
  refine wd_callV1 (As := [.int p0, .int 4]) hC hW 0 wR_c0 rfl (c_X9_of l D cy ad X T p0 4 r1 hr2) (cwV 2 hts (gu_V w_12_0 w_11_21 w_11_22 w_11_23 w_1_5) rfl rfl rfl hdX9_of ⟨Nat.le_of_ble_eq_true rfl, Nat.le_of_ble_eq_true rfl⟩) rfl hl.1 rfl (Nat.le_of_ble_eq_true rfl) ⟨Nat.zero_le _, Nat.zero_le _⟩ dX9_duelTry_7 (fun H locs hW => ?_)
  obtain ⟨r3, hr4, h⟩ := bd_of h
  refine wd_callV1 (As := [.int p0, .int 2, .int p1, .int r1]) hC hW 0 wR_c0 rfl (c_X9_oddsOf l D cy ad X n T p0 2 p1 r1 r3 hr4) (cwV 4 hts (gu_V w_15_23 w_15_20 w_15_21 w_15_22 w_1_5) rfl rfl rfl hdX9_oddsOf ⟨Nat.le_of_ble_eq_true rfl, Nat.le_of_ble_eq_true rfl⟩) rfl hl.1 rfl (Nat.le_of_ble_eq_true rfl) ⟨Nat.zero_le _, Nat.zero_le _⟩ dX9_duelTry_10 (fun H locs hW => ?_)
  refine lv_iload_n hx hb dX9_duelTry_13 rfl (lv_at hl 3 rfl) ?_
  refine lv_iload hx hb dX9_duelTry_14 (lv_at hl 4 rfl) ?_
  obtain ⟨r5, hr6, h⟩ := bd_of h
  refine wd_callS1 (As := [.int r3, .int p2, .int p3]) hC hW (c_X9_expected l D cy ad X T r3 p2 p3 r5 hr6) (va_cwS 3 hts (gu_S w_29_5 w_29_3 w_29_4 w_1_5) rfl rfl rfl hdX9_expected ⟨Nat.le_of_ble_eq_true rfl, Nat.le_of_ble_eq_true rfl⟩) rfl hl.1 rfl (Nat.le_of_ble_eq_true rfl) ⟨Nat.zero_le _, Nat.zero_le _⟩ dX9_duelTry_16 (fun H locs hW => ?_)
  obtain rfl := Option.some.inj h
  exact wd_iret hA hQ hC hr hk hW dX9_duelTry_19
def m_X9_duelLast (n : Nat) (T : St) (p0 : Int32) (p1 : Int32) (p2 : Int32) : Option (Int32) :=
  (m_X9_duelBest T p0 p1 1).bind (fun r1 => (m_X9_duelBest T p0 p1 0).bind (fun r3 => if p0 = (T.1 35) then ((m_X9_duelEnds n T r1 p2).bind (fun r12 => (m_X9_duelEnds n T r3 p2).bind (fun r14 => (m_X9_duelTry n T p0 p1 r12 r14).bind (fun r16 => some r16)))) else ((m_X9_duelEnds n T p2 r1).bind (fun r6 => (m_X9_duelEnds n T p2 r3).bind (fun r8 => (m_X9_duelTry n T p0 p1 r6 r8).bind (fun r10 => some r10))))))
set_option maxHeartbeats 4000000 in
set_option maxRecDepth 100000 in
theorem c_X9_duelLast (l : Launch) (D : va_G) (cy : Nat → ClassId) (ad : Nat → Nat) (X : va_W) (n : Nat) (T : St) (p0 : Int32) (p1 : Int32) (p2 : Int32) (r : (Int32)) (h : m_X9_duelLast n T p0 p1 p2 = some r) : CT l yX9_duelLast (wu yX9_duelLast cX9_duelLast 6 (some .int)) 3 D cy [.ref (ad 0), .int p0, .int p1, .int p2] (wR ad cy T ++ X) (some (.int r)) (wR ad cy T ++ X) := by
  refine CT.mk (cc := cX9_duelLast) (maxL := 6) (ret := (some .int)) (own := RX9) (by decide) rfl rfl (Nat.le_of_ble_eq_true rfl) ?_
  intro p e s m args below meth c ls A Q hA hQ hC hr hk hW hl
  have hx := hC.1
  have hb := hC.2.1
  have hown := hC.2.2.2.1
  have hts := hC.2.2.2.2
  have hl : lv_has ls 6 [(0, .ref (ad 0)), (1, .int p0), (2, .int p1), (3, .int p2)] := hl
  have f365 := hts _ (wu_in w_46_12)
  have i9 := (fun w h => wu_in (inc_9 w h) : ∀ w ∈ u_ws RX9 TX9 40, w ∈ (wu yX9_duelLast cX9_duelLast 6 (some .int)))
  unfold m_X9_duelLast at h
  refine lv_aload_n hx hb dX9_duelLast_0 rfl (lv_at hl 0 rfl) ?_
  refine lv_iload_n hx hb dX9_duelLast_1 rfl (lv_at hl 1 rfl) ?_
  refine lv_iload_n hx hb dX9_duelLast_2 rfl (lv_at hl 2 rfl) ?_
  refine lv_iconst (v := 1) hx hb dX9_duelLast_3 (by decide) ?_
  obtain ⟨r1, hr2, h⟩ := bd_of h
  refine wd_callV1 (As := [.int p0, .int p1, .int 1]) hC hW 0 wR_c0 rfl (c_X9_duelBest l D cy ad X T p0 p1 1 r1 hr2) (cwV 3 hts (gu_V w_47_9 w_47_6 w_47_7 w_47_8 w_1_5) rfl rfl rfl hdX9_duelBest ⟨Nat.le_of_ble_eq_true rfl, Nat.le_of_ble_eq_true rfl⟩) rfl hl.1 rfl (Nat.le_of_ble_eq_true rfl) ⟨Nat.zero_le _, Nat.zero_le _⟩ dX9_duelLast_4 (fun H locs hW => ?_)
  refine lv_istore (lv' := [(4, .int r1), (0, .ref (ad 0)), (1, .int p0), (2, .int p1), (3, .int p2)]) hx hb dX9_duelLast_7 hl (by decide) rfl (fun ls hl => ?_)
  refine lv_aload_n hx hb dX9_duelLast_9 rfl (lv_at hl 1 rfl) ?_
  refine lv_iload_n hx hb dX9_duelLast_10 rfl (lv_at hl 2 rfl) ?_
  refine lv_iload_n hx hb dX9_duelLast_11 rfl (lv_at hl 3 rfl) ?_
  refine lv_iconst (v := 0) hx hb dX9_duelLast_12 (by decide) ?_
  obtain ⟨r3, hr4, h⟩ := bd_of h
  refine wd_callV1 (As := [.int p0, .int p1, .int 0]) hC hW 0 wR_c0 rfl (c_X9_duelBest l D cy ad X T p0 p1 0 r3 hr4) (cwV 3 hts (gu_V w_47_9 w_47_6 w_47_7 w_47_8 w_1_5) rfl rfl rfl hdX9_duelBest ⟨Nat.le_of_ble_eq_true rfl, Nat.le_of_ble_eq_true rfl⟩) rfl hl.1 rfl (Nat.le_of_ble_eq_true rfl) ⟨Nat.zero_le _, Nat.zero_le _⟩ dX9_duelLast_13 (fun H locs hW => ?_)
  refine lv_istore (lv' := [(5, .int r3), (4, .int r1), (0, .ref (ad 0)), (1, .int p0), (2, .int p1), (3, .int p2)]) hx hb dX9_duelLast_16 hl (by decide) rfl (fun ls hl => ?_)
  refine lv_iload_n hx hb dX9_duelLast_18 rfl (lv_at hl 3 rfl) ?_
  refine lv_aload_n hx hb dX9_duelLast_19 rfl (lv_at hl 2 rfl) ?_
  refine wd_get hC i9 hW 0 wR_c0 rfl 35 (Nat.le_of_ble_eq_true rfl) f365 rfl rfl dX9_duelLast_20 ?_
  refine lv_icmp_ne (tgt := 49) hx hb dX9_duelLast_23 (by decide) (fun c5 => ?_) (fun c5 => ?_)
  · replace h := ite_f h c5
    refine lv_aload_n hx hb dX9_duelLast_49 rfl (lv_at hl 2 rfl) ?_
    refine lv_iload_n hx hb dX9_duelLast_50 rfl (lv_at hl 3 rfl) ?_
    refine lv_iload_n hx hb dX9_duelLast_51 rfl (lv_at hl 4 rfl) ?_
    refine lv_aload_n hx hb dX9_duelLast_52 rfl (lv_at hl 2 rfl) ?_
    refine lv_iload_n hx hb dX9_duelLast_53 rfl (lv_at hl 5 rfl) ?_
    refine lv_iload hx hb dX9_duelLast_54 (lv_at hl 1 rfl) ?_
    obtain ⟨r6, hr7, h⟩ := bd_of h
    refine wd_callV1 (As := [.int p2, .int r1]) hC hW 0 wR_c0 rfl (c_X9_duelEnds l D cy ad X n T p2 r1 r6 hr7) (cwV 2 hts (gu_V w_47_21 w_47_18 w_47_19 w_47_20 w_1_5) rfl rfl rfl hdX9_duelEnds ⟨Nat.le_of_ble_eq_true rfl, Nat.le_of_ble_eq_true rfl⟩) rfl hl.1 rfl (Nat.le_of_ble_eq_true rfl) ⟨Nat.zero_le _, Nat.zero_le _⟩ dX9_duelLast_56 (fun H locs hW => ?_)
    refine lv_aload_n hx hb dX9_duelLast_59 rfl (lv_at hl 2 rfl) ?_
    refine lv_iload_n hx hb dX9_duelLast_60 rfl (lv_at hl 5 rfl) ?_
    refine lv_iload hx hb dX9_duelLast_61 (lv_at hl 0 rfl) ?_
    obtain ⟨r8, hr9, h⟩ := bd_of h
    refine wd_callV1 (As := [.int p2, .int r3]) hC hW 0 wR_c0 rfl (c_X9_duelEnds l D cy ad X n T p2 r3 r8 hr9) (cwV 2 hts (gu_V w_47_21 w_47_18 w_47_19 w_47_20 w_1_5) rfl rfl rfl hdX9_duelEnds ⟨Nat.le_of_ble_eq_true rfl, Nat.le_of_ble_eq_true rfl⟩) rfl hl.1 rfl (Nat.le_of_ble_eq_true rfl) ⟨Nat.zero_le _, Nat.zero_le _⟩ dX9_duelLast_63 (fun H locs hW => ?_)
    obtain ⟨r10, hr11, h⟩ := bd_of h
    refine wd_callV1 (As := [.int p0, .int p1, .int r6, .int r8]) hC hW 0 wR_c0 rfl (c_X9_duelTry l D cy ad X n T p0 p1 r6 r8 r10 hr11) (cwV 4 hts (gu_V w_48_1 w_47_22 w_47_23 w_48_0 w_1_5) rfl rfl rfl hdX9_duelTry ⟨Nat.le_of_ble_eq_true rfl, Nat.le_of_ble_eq_true rfl⟩) rfl hl.1 rfl (Nat.le_of_ble_eq_true rfl) ⟨Nat.zero_le _, Nat.zero_le _⟩ dX9_duelLast_66 (fun H locs hW => ?_)
    obtain rfl := Option.some.inj h
    exact wd_iret hA hQ hC hr hk hW dX9_duelLast_69
  · replace h := ite_t h c5
    refine lv_aload_n hx hb dX9_duelLast_26 rfl (lv_at hl 2 rfl) ?_
    refine lv_iload_n hx hb dX9_duelLast_27 rfl (lv_at hl 3 rfl) ?_
    refine lv_iload_n hx hb dX9_duelLast_28 rfl (lv_at hl 4 rfl) ?_
    refine lv_aload_n hx hb dX9_duelLast_29 rfl (lv_at hl 2 rfl) ?_
    refine lv_iload hx hb dX9_duelLast_30 (lv_at hl 1 rfl) ?_
    refine lv_iload_n hx hb dX9_duelLast_32 rfl (lv_at hl 5 rfl) ?_
    obtain ⟨r12, hr13, h⟩ := bd_of h
    refine wd_callV1 (As := [.int r1, .int p2]) hC hW 0 wR_c0 rfl (c_X9_duelEnds l D cy ad X n T r1 p2 r12 hr13) (cwV 2 hts (gu_V w_47_21 w_47_18 w_47_19 w_47_20 w_1_5) rfl rfl rfl hdX9_duelEnds ⟨Nat.le_of_ble_eq_true rfl, Nat.le_of_ble_eq_true rfl⟩) rfl hl.1 rfl (Nat.le_of_ble_eq_true rfl) ⟨Nat.zero_le _, Nat.zero_le _⟩ dX9_duelLast_33 (fun H locs hW => ?_)
    refine lv_aload_n hx hb dX9_duelLast_36 rfl (lv_at hl 2 rfl) ?_
    refine lv_iload hx hb dX9_duelLast_37 (lv_at hl 0 rfl) ?_
    refine lv_iload_n hx hb dX9_duelLast_39 rfl (lv_at hl 5 rfl) ?_
    obtain ⟨r14, hr15, h⟩ := bd_of h
    refine wd_callV1 (As := [.int r3, .int p2]) hC hW 0 wR_c0 rfl (c_X9_duelEnds l D cy ad X n T r3 p2 r14 hr15) (cwV 2 hts (gu_V w_47_21 w_47_18 w_47_19 w_47_20 w_1_5) rfl rfl rfl hdX9_duelEnds ⟨Nat.le_of_ble_eq_true rfl, Nat.le_of_ble_eq_true rfl⟩) rfl hl.1 rfl (Nat.le_of_ble_eq_true rfl) ⟨Nat.zero_le _, Nat.zero_le _⟩ dX9_duelLast_40 (fun H locs hW => ?_)
    obtain ⟨r16, hr17, h⟩ := bd_of h
    refine wd_callV1 (As := [.int p0, .int p1, .int r12, .int r14]) hC hW 0 wR_c0 rfl (c_X9_duelTry l D cy ad X n T p0 p1 r12 r14 r16 hr17) (cwV 4 hts (gu_V w_48_1 w_47_22 w_47_23 w_48_0 w_1_5) rfl rfl rfl hdX9_duelTry ⟨Nat.le_of_ble_eq_true rfl, Nat.le_of_ble_eq_true rfl⟩) rfl hl.1 rfl (Nat.le_of_ble_eq_true rfl) ⟨Nat.zero_le _, Nat.zero_le _⟩ dX9_duelLast_43 (fun H locs hW => ?_)
    refine lv_goto (tgt := 69) hx hb dX9_duelLast_46 (by decide) ?_
    obtain rfl := Option.some.inj h
    exact wd_iret hA hQ hC hr hk hW dX9_duelLast_69
def m_X9_isBetter (T : St) (p0 : Int32) (p1 : Int32) (p2 : Int32) : Option (Int32) :=
  if p0 = 0 then (if p2 ≤ p1 then (some 0) else (some 1)) else (if p1 ≤ p2 then (some 0) else (some 1))
set_option maxHeartbeats 4000000 in
set_option maxRecDepth 100000 in
theorem c_X9_isBetter (l : Launch) (D : va_G) (cy : Nat → ClassId) (ad : Nat → Nat) (X : va_W) (T : St) (p0 : Int32) (p1 : Int32) (p2 : Int32) (r : (Int32)) (h : m_X9_isBetter T p0 p1 p2 = some r) : CT l yX9_isBetter (wu yX9_isBetter cX9_isBetter 3 (some .boolean)) 0 D cy [.int p0, .int p1, .int p2] (wR ad cy T ++ X) (some (.int r)) (wR ad cy T ++ X) := by
  refine CT.mk (cc := cX9_isBetter) (maxL := 3) (ret := (some .boolean)) (own := RX9) (by decide) rfl rfl (Nat.le_of_ble_eq_true rfl) ?_
  intro p e s m args below meth c ls A Q hA hQ hC hr hk hW hl
  have hx := hC.1
  have hb := hC.2.1
  have hown := hC.2.2.2.1
  have hts := hC.2.2.2.2
  have hl : lv_has ls 3 [(0, .int p0), (1, .int p1), (2, .int p2)] := hl
  unfold m_X9_isBetter at h
  refine lv_iload_n hx hb dX9_isBetter_0 rfl (lv_at hl 0 rfl) ?_
  refine lv_if_eq (tgt := 17) hx hb dX9_isBetter_1 (by decide) (fun c1 => ?_) (fun c1 => ?_)
  · replace h := ite_t h c1
    refine lv_iload_n hx hb dX9_isBetter_17 rfl (lv_at hl 1 rfl) ?_
    refine lv_iload_n hx hb dX9_isBetter_18 rfl (lv_at hl 2 rfl) ?_
    refine lv_icmp_ge (tgt := 26) hx hb dX9_isBetter_19 (by decide) (fun c2 => ?_) (fun c2 => ?_)
    · replace h := ite_t h c2
      refine lv_iconst (v := 0) hx hb dX9_isBetter_26 (by decide) ?_
      obtain rfl := Option.some.inj h
      exact wd_zret hA hQ hC hr hk hW rfl dX9_isBetter_27
    · replace h := ite_f h c2
      refine lv_iconst (v := 1) hx hb dX9_isBetter_22 (by decide) ?_
      refine lv_goto (tgt := 27) hx hb dX9_isBetter_23 (by decide) ?_
      obtain rfl := Option.some.inj h
      exact wd_zret hA hQ hC hr hk hW rfl dX9_isBetter_27
  · replace h := ite_f h c1
    refine lv_iload_n hx hb dX9_isBetter_4 rfl (lv_at hl 1 rfl) ?_
    refine lv_iload_n hx hb dX9_isBetter_5 rfl (lv_at hl 2 rfl) ?_
    refine lv_icmp_le (tgt := 13) hx hb dX9_isBetter_6 (by decide) (fun c3 => ?_) (fun c3 => ?_)
    · replace h := ite_t h c3
      refine lv_iconst (v := 0) hx hb dX9_isBetter_13 (by decide) ?_
      refine lv_goto (tgt := 27) hx hb dX9_isBetter_14 (by decide) ?_
      obtain rfl := Option.some.inj h
      exact wd_zret hA hQ hC hr hk hW rfl dX9_isBetter_27
    · replace h := ite_f h c3
      refine lv_iconst (v := 1) hx hb dX9_isBetter_9 (by decide) ?_
      refine lv_goto (tgt := 27) hx hb dX9_isBetter_10 (by decide) ?_
      obtain rfl := Option.some.inj h
      exact wd_zret hA hQ hC hr hk hW rfl dX9_isBetter_27
def m_X9_duelChoosesLast_L15 : Nat → St → Int32 → Int32 → Int32 → Int32 → Int32 → Option (Int32)
  | 0, _, _, _, _, _, _ => none
  | n + 1, T, x1, x3, x4, x5, x6 =>
    if 40 < x6 then (some x5) else (if x3 ≤ 0 then (some x5) else ((m_X9_duelLast n T x1 x6 x4).bind (fun r7 => ((if x1 = (T.1 35) then (some 1) else (some 0) : Option (Int32))).bind (fun q10 => (m_X9_isBetter T q10 r7 x5).bind (fun r12 => if r12 = 0 then (m_X9_duelChoosesLast_L15 n T x1 x3 x4 x5 (x6 + 1)) else (m_X9_duelChoosesLast_L15 n T x1 x3 x4 r7 (x6 + 1)))))))
theorem m_X9_duelChoosesLast_L15_0 (T : St) (x1 : Int32) (x3 : Int32) (x4 : Int32) (x5 : Int32) (x6 : Int32) : m_X9_duelChoosesLast_L15 0 T x1 x3 x4 x5 x6 = none := rfl
theorem m_X9_duelChoosesLast_L15_s {n : Nat} {T : St} {x1 : Int32} {x3 : Int32} {x4 : Int32} {x5 : Int32} {x6 : Int32} : m_X9_duelChoosesLast_L15 (n + 1) T x1 x3 x4 x5 x6 =
    (if 40 < x6 then (some x5) else (if x3 ≤ 0 then (some x5) else ((m_X9_duelLast n T x1 x6 x4).bind (fun r7 => ((if x1 = (T.1 35) then (some 1) else (some 0) : Option (Int32))).bind (fun q10 => (m_X9_isBetter T q10 r7 x5).bind (fun r12 => if r12 = 0 then (m_X9_duelChoosesLast_L15 n T x1 x3 x4 x5 (x6 + 1)) else (m_X9_duelChoosesLast_L15 n T x1 x3 x4 r7 (x6 + 1)))))))) := rfl
def m_X9_duelChoosesLast (n : Nat) (T : St) (p0 : Int32) (p1 : Int32) (p2 : Int32) (p3 : Int32) : Option (Int32) :=
  (m_X9_duelLast n T p0 p1 p3).bind (fun r1 => (m_X9_duelChoosesLast_L15 n T p0 p2 p3 r1 (p1 + 1)).bind (fun q3 => some q3))
set_option maxHeartbeats 4000000 in
set_option maxRecDepth 100000 in
theorem c_X9_duelChoosesLast (l : Launch) (D : va_G) (cy : Nat → ClassId) (ad : Nat → Nat) (X : va_W) (n : Nat) (T : St) (p0 : Int32) (p1 : Int32) (p2 : Int32) (p3 : Int32) (r : (Int32)) (h : m_X9_duelChoosesLast n T p0 p1 p2 p3 = some r) : CT l yX9_duelChoosesLast (wu yX9_duelChoosesLast cX9_duelChoosesLast 8 (some .int)) 4 D cy [.ref (ad 0), .int p0, .int p1, .int p2, .int p3] (wR ad cy T ++ X) (some (.int r)) (wR ad cy T ++ X) := by
  refine CT.mk (cc := cX9_duelChoosesLast) (maxL := 8) (ret := (some .int)) (own := RX9) (by decide) rfl rfl (Nat.le_of_ble_eq_true rfl) ?_
  intro p e s m args below meth c ls A Q hA hQ hC hr hk hW hl
  have hx := hC.1
  have hb := hC.2.1
  have hown := hC.2.2.2.1
  have hts := hC.2.2.2.2
  have hl : lv_has ls 8 [(0, .ref (ad 0)), (1, .int p0), (2, .int p1), (3, .int p2), (4, .int p3)] := hl
  have f365 := hts _ (wu_in w_46_12)
  have i9 := (fun w h => wu_in (inc_9 w h) : ∀ w ∈ u_ws RX9 TX9 40, w ∈ (wu yX9_duelChoosesLast cX9_duelChoosesLast 8 (some .int)))
  unfold m_X9_duelChoosesLast at h
  refine lv_aload_n hx hb dX9_duelChoosesLast_0 rfl (lv_at hl 0 rfl) ?_
  refine lv_iload_n hx hb dX9_duelChoosesLast_1 rfl (lv_at hl 1 rfl) ?_
  refine lv_iload_n hx hb dX9_duelChoosesLast_2 rfl (lv_at hl 2 rfl) ?_
  refine lv_iload hx hb dX9_duelChoosesLast_3 (lv_at hl 4 rfl) ?_
  obtain ⟨r1, hr2, h⟩ := bd_of h
  refine wd_callV1 (As := [.int p0, .int p1, .int p3]) hC hW 0 wR_c0 rfl (c_X9_duelLast l D cy ad X n T p0 p1 p3 r1 hr2) (cwV 3 hts (gu_V w_47_17 w_47_14 w_47_15 w_47_16 w_1_5) rfl rfl rfl hdX9_duelLast ⟨Nat.le_of_ble_eq_true rfl, Nat.le_of_ble_eq_true rfl⟩) rfl hl.1 rfl (Nat.le_of_ble_eq_true rfl) ⟨Nat.zero_le _, Nat.zero_le _⟩ dX9_duelChoosesLast_5 (fun H locs hW => ?_)
  refine lv_istore (lv' := [(5, .int r1), (0, .ref (ad 0)), (1, .int p0), (2, .int p1), (3, .int p2), (4, .int p3)]) hx hb dX9_duelChoosesLast_8 hl (by decide) rfl (fun ls hl => ?_)
  refine lv_iload_n hx hb dX9_duelChoosesLast_10 rfl (lv_at hl 3 rfl) ?_
  refine lv_iconst (v := 1) hx hb dX9_duelChoosesLast_11 (by decide) ?_
  refine lv_iadd hx hb dX9_duelChoosesLast_12 ?_
  refine lv_istore (lv' := [(6, .int (p1 + 1)), (5, .int r1), (0, .ref (ad 0)), (1, .int p0), (2, .int p1), (3, .int p2), (4, .int p3)]) hx hb dX9_duelChoosesLast_13 hl (by decide) rfl (fun ls hl => ?_)
  have hL15 : ∀ (n : Nat) (x1 : Int32) (x3 : Int32) (x4 : Int32) (x5 : Int32) (x6 : Int32)  (H : Heap) (locs : List Loc) (ls : Array Slot) (r : (Int32)), m_X9_duelChoosesLast_L15 n T x1 x3 x4 x5 x6 = some r → Wd D cy A s (wR ad cy T ++ X) H locs → lv_has ls 8 [(0, .ref (ad 0)), (1, .int x1), (3, .int x3), (4, .int x4), (5, .int x5), (6, .int x6)] → (∀ (H : Heap) (locs : List Loc) (ls : Array Slot), Wd D cy A s (wR ad cy T ++ X) H locs → lv_has ls 8 [(0, .ref (ad 0)), (1, .int x1), (3, .int x3), (4, .int x4), (5, .int r)] → W p l e (RM 4) s m args below meth c H locs 0 0 Q (F0 m 75 ls [])) → W p l e (RM 4) s m args below meth c H locs 0 0 Q (F0 m 15 ls []) := by
    intro n
    induction n with
    | zero =>
      intro x1 x3 x4 x5 x6  H locs ls r h
      exact absurd (h.symm.trans (m_X9_duelChoosesLast_L15_0 ..)) (by simp)
    | succ n ih =>
      intro x1 x3 x4 x5 x6  H locs ls r h hW hl kk
      rw [m_X9_duelChoosesLast_L15_s] at h
      refine lv_iload hx hb dX9_duelChoosesLast_15 (lv_at hl 5 rfl) ?_
      refine lv_bipush (v := 40) hx hb dX9_duelChoosesLast_17 (by decide) ?_
      refine lv_icmp_gt (tgt := 75) hx hb dX9_duelChoosesLast_19 (by decide) (fun c5 => ?_) (fun c5 => ?_)
      · replace h := ite_t h c5
        obtain rfl := Option.some.inj h
        exact kk _ _ _ hW (lv_sub hl [0, 1, 2, 3, 4] rfl)
      · replace h := ite_f h c5
        refine lv_iload_n hx hb dX9_duelChoosesLast_22 rfl (lv_at hl 2 rfl) ?_
        refine lv_if_le (tgt := 75) hx hb dX9_duelChoosesLast_23 (by decide) (fun c6 => ?_) (fun c6 => ?_)
        · replace h := ite_t h c6
          obtain rfl := Option.some.inj h
          exact kk _ _ _ hW (lv_sub hl [0, 1, 2, 3, 4] rfl)
        · replace h := ite_f h c6
          refine lv_aload_n hx hb dX9_duelChoosesLast_26 rfl (lv_at hl 0 rfl) ?_
          refine lv_iload_n hx hb dX9_duelChoosesLast_27 rfl (lv_at hl 1 rfl) ?_
          refine lv_iload hx hb dX9_duelChoosesLast_28 (lv_at hl 5 rfl) ?_
          refine lv_iload hx hb dX9_duelChoosesLast_30 (lv_at hl 3 rfl) ?_
          obtain ⟨r7, hr8, h⟩ := bd_of h
          refine wd_callV1 (As := [.int x1, .int x6, .int x4]) hC hW 0 wR_c0 rfl (c_X9_duelLast l D cy ad X n T x1 x6 x4 r7 hr8) (cwV 3 hts (gu_V w_47_17 w_47_14 w_47_15 w_47_16 w_1_5) rfl rfl rfl hdX9_duelLast ⟨Nat.le_of_ble_eq_true rfl, Nat.le_of_ble_eq_true rfl⟩) rfl hl.1 rfl (Nat.le_of_ble_eq_true rfl) ⟨Nat.zero_le _, Nat.zero_le _⟩ dX9_duelChoosesLast_32 (fun H locs hW => ?_)
          refine lv_istore (lv' := [(7, .int r7), (0, .ref (ad 0)), (1, .int x1), (3, .int x3), (4, .int x4), (5, .int x5), (6, .int x6)]) hx hb dX9_duelChoosesLast_35 hl (by decide) rfl (fun ls hl => ?_)
          refine lv_iload_n hx hb dX9_duelChoosesLast_37 rfl (lv_at hl 2 rfl) ?_
          refine lv_aload_n hx hb dX9_duelChoosesLast_38 rfl (lv_at hl 1 rfl) ?_
          refine wd_get hC i9 hW 0 wR_c0 rfl 35 (Nat.le_of_ble_eq_true rfl) f365 rfl rfl dX9_duelChoosesLast_39 ?_
          obtain ⟨q10, hq11, h⟩ := bd_of h
          have hJ50 : ∀ (H : Heap) (locs : List Loc) (ls : Array Slot), Wd D cy A s (wR ad cy T ++ X) H locs → lv_has ls 8 [(7, .int r7), (0, .ref (ad 0)), (1, .int x1), (3, .int x3), (4, .int x4), (5, .int x5), (6, .int x6)] → W p l e (RM 4) s m args below meth c H locs 0 0 Q (F0 m 50 ls [.int q10]) := by
            intro H locs ls hW hl
            refine lv_iload hx hb dX9_duelChoosesLast_50 (lv_at hl 0 rfl) ?_
            refine lv_iload hx hb dX9_duelChoosesLast_52 (lv_at hl 5 rfl) ?_
            obtain ⟨r12, hr13, h⟩ := bd_of h
            refine wd_callS1 (As := [.int q10, .int r7, .int x5]) hC hW (c_X9_isBetter l D cy ad X T q10 r7 x5 r12 hr13) (va_cwS 3 hts (gu_S w_48_4 w_48_2 w_48_3 w_1_5) rfl rfl rfl hdX9_isBetter ⟨Nat.le_of_ble_eq_true rfl, Nat.le_of_ble_eq_true rfl⟩) rfl hl.1 rfl (Nat.le_of_ble_eq_true rfl) ⟨Nat.zero_le _, Nat.zero_le _⟩ dX9_duelChoosesLast_54 (fun H locs hW => ?_)
            refine lv_if_eq (tgt := 65) hx hb dX9_duelChoosesLast_57 (by decide) (fun c14 => ?_) (fun c14 => ?_)
            · replace h := ite_t h c14
              refine lv_iload hx hb dX9_duelChoosesLast_65 (lv_at hl 5 rfl) ?_
              refine lv_istore (lv' := [(5, .int x5), (7, .int r7), (0, .ref (ad 0)), (1, .int x1), (3, .int x3), (4, .int x4), (6, .int x6)]) hx hb dX9_duelChoosesLast_67 hl (by decide) rfl (fun ls hl => ?_)
              refine lv_iinc (v := x6 + 1) (lv' := [(6, .int (x6 + 1)), (5, .int x5), (7, .int r7), (0, .ref (ad 0)), (1, .int x1), (3, .int x3), (4, .int x4)]) hx hb dX9_duelChoosesLast_69 hl (k := 6) rfl rfl (by decide) rfl (fun ls hl => ?_)
              refine lv_goto (tgt := 15) hx hb dX9_duelChoosesLast_72 (by decide) ?_
              exact ih x1 x3 x4 x5 (x6 + 1) _ _ _ r h hW (lv_sub hl [3, 4, 5, 6, 1, 0] rfl) kk
            · replace h := ite_f h c14
              refine lv_iload hx hb dX9_duelChoosesLast_60 (lv_at hl 0 rfl) ?_
              refine lv_goto (tgt := 67) hx hb dX9_duelChoosesLast_62 (by decide) ?_
              refine lv_istore (lv' := [(5, .int r7), (7, .int r7), (0, .ref (ad 0)), (1, .int x1), (3, .int x3), (4, .int x4), (6, .int x6)]) hx hb dX9_duelChoosesLast_67 hl (by decide) rfl (fun ls hl => ?_)
              refine lv_iinc (v := x6 + 1) (lv' := [(6, .int (x6 + 1)), (5, .int r7), (7, .int r7), (0, .ref (ad 0)), (1, .int x1), (3, .int x3), (4, .int x4)]) hx hb dX9_duelChoosesLast_69 hl (k := 6) rfl rfl (by decide) rfl (fun ls hl => ?_)
              refine lv_goto (tgt := 15) hx hb dX9_duelChoosesLast_72 (by decide) ?_
              exact ih x1 x3 x4 r7 (x6 + 1) _ _ _ r h hW (lv_sub hl [3, 4, 5, 6, 1, 0] rfl) kk
          replace h := hq11
          refine lv_icmp_ne (tgt := 49) hx hb dX9_duelChoosesLast_42 (by decide) (fun c9 => ?_) (fun c9 => ?_)
          · replace h := ite_f h c9
            refine lv_iconst (v := 0) hx hb dX9_duelChoosesLast_49 (by decide) ?_
            obtain rfl := Option.some.inj h
            exact hJ50 _ _ _ hW (lv_sub hl [0, 1, 2, 3, 4, 5, 6] rfl)
          · replace h := ite_t h c9
            refine lv_iconst (v := 1) hx hb dX9_duelChoosesLast_45 (by decide) ?_
            refine lv_goto (tgt := 50) hx hb dX9_duelChoosesLast_46 (by decide) ?_
            obtain rfl := Option.some.inj h
            exact hJ50 _ _ _ hW (lv_sub hl [0, 1, 2, 3, 4, 5, 6] rfl)
  obtain ⟨q3, hq4, h⟩ := bd_of h
  refine hL15 n p0 p2 p3 r1 (p1 + 1)  _ _ _ q3 hq4 hW (lv_sub hl [2, 3, 5, 6, 1, 0] rfl) (fun H locs ls hW hl => ?_)
  refine lv_iload hx hb dX9_duelChoosesLast_75 (lv_at hl 4 rfl) ?_
  obtain rfl := Option.some.inj h
  exact wd_iret hA hQ hC hr hk hW dX9_duelChoosesLast_77
def m_X9_duelCell (T : St) (p0 : Int32) (p1 : Int32) (p2 : Int32) (p3 : Int32) : Option (Int32) :=
  some ((41 * ((41 * ((3 * p2) + p3)) + p0)) + p1)
set_option maxHeartbeats 4000000 in
set_option maxRecDepth 100000 in
theorem c_X9_duelCell (l : Launch) (D : va_G) (cy : Nat → ClassId) (ad : Nat → Nat) (X : va_W) (T : St) (p0 : Int32) (p1 : Int32) (p2 : Int32) (p3 : Int32) (r : (Int32)) (h : m_X9_duelCell T p0 p1 p2 p3 = some r) : CT l yX9_duelCell (wu yX9_duelCell cX9_duelCell 4 (some .int)) 0 D cy [.int p0, .int p1, .int p2, .int p3] (wR ad cy T ++ X) (some (.int r)) (wR ad cy T ++ X) := by
  refine CT.mk (cc := cX9_duelCell) (maxL := 4) (ret := (some .int)) (own := RX9) (by decide) rfl rfl (Nat.le_of_ble_eq_true rfl) ?_
  intro p e s m args below meth c ls A Q hA hQ hC hr hk hW hl
  have hx := hC.1
  have hb := hC.2.1
  have hown := hC.2.2.2.1
  have hts := hC.2.2.2.2
  have hl : lv_has ls 4 [(0, .int p0), (1, .int p1), (2, .int p2), (3, .int p3)] := hl
  unfold m_X9_duelCell at h
  refine lv_bipush (v := 41) hx hb dX9_duelCell_0 (by decide) ?_
  refine lv_bipush (v := 41) hx hb dX9_duelCell_2 (by decide) ?_
  refine lv_iconst (v := 3) hx hb dX9_duelCell_4 (by decide) ?_
  refine lv_iload_n hx hb dX9_duelCell_5 rfl (lv_at hl 2 rfl) ?_
  refine lv_imul hx hb dX9_duelCell_6 ?_
  refine lv_iload_n hx hb dX9_duelCell_7 rfl (lv_at hl 3 rfl) ?_
  refine lv_iadd hx hb dX9_duelCell_8 ?_
  refine lv_imul hx hb dX9_duelCell_9 ?_
  refine lv_iload_n hx hb dX9_duelCell_10 rfl (lv_at hl 0 rfl) ?_
  refine lv_iadd hx hb dX9_duelCell_11 ?_
  refine lv_imul hx hb dX9_duelCell_12 ?_
  refine lv_iload_n hx hb dX9_duelCell_13 rfl (lv_at hl 1 rfl) ?_
  refine lv_iadd hx hb dX9_duelCell_14 ?_
  obtain rfl := Option.some.inj h
  exact wd_iret hA hQ hC hr hk hW dX9_duelCell_15
def m_X9_isOneCalled (T : St) (p0 : Int32) (p1 : Int32) : Option (Int32) :=
  if p0 < p1 then (some 1) else (if p0 = p1 then (ck (T.1 35) 6 (ck (T.1 36) 6 (if (T.2.1 5 (T.1 36).toNatClampNeg) ≤ (T.2.1 5 (T.1 35).toNatClampNeg) then (some 0) else (some 1)))) else (some 0))
set_option maxHeartbeats 4000000 in
set_option maxRecDepth 100000 in
theorem c_X9_isOneCalled (l : Launch) (D : va_G) (cy : Nat → ClassId) (ad : Nat → Nat) (X : va_W) (T : St) (p0 : Int32) (p1 : Int32) (r : (Int32)) (h : m_X9_isOneCalled T p0 p1 = some r) : CT l yX9_isOneCalled (wu yX9_isOneCalled cX9_isOneCalled 3 (some .boolean)) 0 D cy [.ref (ad 0), .int p0, .int p1] (wR ad cy T ++ X) (some (.int r)) (wR ad cy T ++ X) := by
  refine CT.mk (cc := cX9_isOneCalled) (maxL := 3) (ret := (some .boolean)) (own := RX9) (by decide) rfl rfl (Nat.le_of_ble_eq_true rfl) ?_
  intro p e s m args below meth c ls A Q hA hQ hC hr hk hW hl
  have hx := hC.1
  have hb := hC.2.1
  have hown := hC.2.2.2.1
  have hts := hC.2.2.2.2
  have hl : lv_has ls 3 [(0, .ref (ad 0)), (1, .int p0), (2, .int p1)] := hl
  have f17 := hts _ (wu_in w_5_5)
  have i9 := (fun w h => wu_in (inc_9 w h) : ∀ w ∈ u_ws RX9 TX9 40, w ∈ (wu yX9_isOneCalled cX9_isOneCalled 3 (some .boolean)))
  have f365 := hts _ (wu_in w_46_12)
  have f368 := hts _ (wu_in w_46_13)
  unfold m_X9_isOneCalled at h
  refine lv_iload_n hx hb dX9_isOneCalled_0 rfl (lv_at hl 1 rfl) ?_
  refine lv_iload_n hx hb dX9_isOneCalled_1 rfl (lv_at hl 2 rfl) ?_
  refine lv_icmp_lt (tgt := 31) hx hb dX9_isOneCalled_2 (by decide) (fun c1 => ?_) (fun c1 => ?_)
  · replace h := ite_t h c1
    refine lv_iconst (v := 1) hx hb dX9_isOneCalled_31 (by decide) ?_
    refine lv_goto (tgt := 36) hx hb dX9_isOneCalled_32 (by decide) ?_
    obtain rfl := Option.some.inj h
    exact wd_zret hA hQ hC hr hk hW rfl dX9_isOneCalled_36
  · replace h := ite_f h c1
    refine lv_iload_n hx hb dX9_isOneCalled_5 rfl (lv_at hl 1 rfl) ?_
    refine lv_iload_n hx hb dX9_isOneCalled_6 rfl (lv_at hl 2 rfl) ?_
    refine lv_icmp_ne (tgt := 35) hx hb dX9_isOneCalled_7 (by decide) (fun c2 => ?_) (fun c2 => ?_)
    · replace h := ite_f h c2
      refine lv_iconst (v := 0) hx hb dX9_isOneCalled_35 (by decide) ?_
      obtain rfl := Option.some.inj h
      exact wd_zret hA hQ hC hr hk hW rfl dX9_isOneCalled_36
    · replace h := ite_t h c2
      refine lv_aload_n hx hb dX9_isOneCalled_10 rfl (lv_at hl 0 rfl) ?_
      refine wd_get hC i9 hW 0 wR_c0 rfl 5 (Nat.le_of_ble_eq_true rfl) f17 rfl rfl dX9_isOneCalled_11 ?_
      refine lv_aload_n hx hb dX9_isOneCalled_14 rfl (lv_at hl 0 rfl) ?_
      refine wd_get hC i9 hW 0 wR_c0 rfl 35 (Nat.le_of_ble_eq_true rfl) f365 rfl rfl dX9_isOneCalled_15 ?_
      obtain ⟨hi3, h⟩ := ck_of h
      refine wd_iald hC hW 3 wR_c3 hi3 dX9_isOneCalled_18 ?_
      refine lv_aload_n hx hb dX9_isOneCalled_19 rfl (lv_at hl 0 rfl) ?_
      refine wd_get hC i9 hW 0 wR_c0 rfl 5 (Nat.le_of_ble_eq_true rfl) f17 rfl rfl dX9_isOneCalled_20 ?_
      refine lv_aload_n hx hb dX9_isOneCalled_23 rfl (lv_at hl 0 rfl) ?_
      refine wd_get hC i9 hW 0 wR_c0 rfl 36 (Nat.le_of_ble_eq_true rfl) f368 rfl rfl dX9_isOneCalled_24 ?_
      obtain ⟨hi4, h⟩ := ck_of h
      refine wd_iald hC hW 3 wR_c3 hi4 dX9_isOneCalled_27 ?_
      refine lv_icmp_ge (tgt := 35) hx hb dX9_isOneCalled_28 (by decide) (fun c5 => ?_) (fun c5 => ?_)
      · replace h := ite_t h c5
        refine lv_iconst (v := 0) hx hb dX9_isOneCalled_35 (by decide) ?_
        obtain rfl := Option.some.inj h
        exact wd_zret hA hQ hC hr hk hW rfl dX9_isOneCalled_36
      · replace h := ite_f h c5
        refine lv_iconst (v := 1) hx hb dX9_isOneCalled_31 (by decide) ?_
        refine lv_goto (tgt := 36) hx hb dX9_isOneCalled_32 (by decide) ?_
        obtain rfl := Option.some.inj h
        exact wd_zret hA hQ hC hr hk hW rfl dX9_isOneCalled_36
def m_X9_duelLays_L156 : Nat → St → Int32 → Int32 → Int32 → Int32 → Int32 → Int32 → Int32 → Int32 → Option (Int32 × Int32)
  | 0, _, _, _, _, _, _, _, _, _ => none
  | n + 1, T, x1, x2, x3, x4, x5, x12, x13, x14 =>
    if 40 < x14 then (some (x12, x13)) else (((if x5 = 0 then (some x4) else (some x3) : Option (Int32))).bind (fun q35 => if q35 ≤ 0 then (some (x12, x13)) else (((if x5 = 0 then ((m_X9_duelCell T x1 x14 x3 (x4 - 1)).bind (fun r44 => ck r44 15129 (some (T.2.1 37 r44.toNatClampNeg)))) else ((m_X9_duelCell T x14 x2 (x3 - 1) x4).bind (fun r47 => ck r47 15129 (some (T.2.1 37 r47.toNatClampNeg)))) : Option (Int32))).bind (fun q39 => (m_X9_isBetter T x5 q39 x12).bind (fun r41 => if r41 = 0 then (m_X9_duelLays_L156 n T x1 x2 x3 x4 x5 x12 x13 (x14 + 1)) else (m_X9_duelLays_L156 n T x1 x2 x3 x4 x5 q39 x14 (x14 + 1)))))))
theorem m_X9_duelLays_L156_0 (T : St) (x1 : Int32) (x2 : Int32) (x3 : Int32) (x4 : Int32) (x5 : Int32) (x12 : Int32) (x13 : Int32) (x14 : Int32) : m_X9_duelLays_L156 0 T x1 x2 x3 x4 x5 x12 x13 x14 = none := rfl
theorem m_X9_duelLays_L156_s {n : Nat} {T : St} {x1 : Int32} {x2 : Int32} {x3 : Int32} {x4 : Int32} {x5 : Int32} {x12 : Int32} {x13 : Int32} {x14 : Int32} : m_X9_duelLays_L156 (n + 1) T x1 x2 x3 x4 x5 x12 x13 x14 =
    (if 40 < x14 then (some (x12, x13)) else (((if x5 = 0 then (some x4) else (some x3) : Option (Int32))).bind (fun q35 => if q35 ≤ 0 then (some (x12, x13)) else (((if x5 = 0 then ((m_X9_duelCell T x1 x14 x3 (x4 - 1)).bind (fun r44 => ck r44 15129 (some (T.2.1 37 r44.toNatClampNeg)))) else ((m_X9_duelCell T x14 x2 (x3 - 1) x4).bind (fun r47 => ck r47 15129 (some (T.2.1 37 r47.toNatClampNeg)))) : Option (Int32))).bind (fun q39 => (m_X9_isBetter T x5 q39 x12).bind (fun r41 => if r41 = 0 then (m_X9_duelLays_L156 n T x1 x2 x3 x4 x5 x12 x13 (x14 + 1)) else (m_X9_duelLays_L156 n T x1 x2 x3 x4 x5 q39 x14 (x14 + 1)))))))) := rfl
def m_X9_duelLays (n : Nat) (T : St) (p0 : Int32) (p1 : Int32) (p2 : Int32) (p3 : Int32) : Option (St) :=
  (m_X9_isOneCalled T p0 p1).bind (fun r1 => ((if r1 = 0 then (some (T.1 36)) else (some (T.1 35)) : Option (Int32))).bind (fun q4 => ((if r1 = 0 then (some p1) else (some p0) : Option (Int32))).bind (fun q7 => ((if r1 = 0 then (some p2) else (some p3) : Option (Int32))).bind (fun q10 => ((if r1 = 0 then (some p0) else (some p1) : Option (Int32))).bind (fun q13 => ((if r1 = 0 then (some (T.1 35)) else (some (T.1 36)) : Option (Int32))).bind (fun q16 => (m_X9_duelBest T q4 q7 1).bind (fun r18 => (m_X9_duelChoosesLast n T q16 q13 q10 r18).bind (fun r20 => ((if r1 = 0 then (some (T.1 35)) else (some (T.1 36)) : Option (Int32))).bind (fun q23 => (m_X9_duelBest T q4 q7 0).bind (fun r25 => (m_X9_duelChoosesLast n T q23 q13 q10 r25).bind (fun r27 => (m_X9_duelTry n T q4 q7 r20 r27).bind (fun r29 => (m_X9_duelLays_L156 n T p0 p1 p2 p3 r1 r29 0 (q7 + 1)).bind (fun q31 => (m_X9_duelCell T p0 p1 p2 p3).bind (fun r50 => ck r50 15129 (nm (sA T 37 r50.toNatClampNeg q31.1) (fun T53 => (m_X9_duelCell T53 p0 p1 p2 p3).bind (fun r55 => ck r55 15129 (nm (sA T53 38 r55.toNatClampNeg q31.2) (fun T58 => some T58)))))))))))))))))))
set_option maxHeartbeats 4000000 in
set_option maxRecDepth 100000 in
theorem c_X9_duelLays (l : Launch) (D : va_G) (cy : Nat → ClassId) (ad : Nat → Nat) (X : va_W) (n : Nat) (T : St) (p0 : Int32) (p1 : Int32) (p2 : Int32) (p3 : Int32) (r : (St)) (h : m_X9_duelLays n T p0 p1 p2 p3 = some r) : CT l yX9_duelLays (wu yX9_duelLays cX9_duelLays 16 none) 5 D cy [.ref (ad 0), .int p0, .int p1, .int p2, .int p3] (wR ad cy T ++ X) (none) (wR ad cy r ++ X) := by
  refine CT.mk (cc := cX9_duelLays) (maxL := 16) (ret := none) (own := RX9) (by decide) rfl rfl (Nat.le_of_ble_eq_true rfl) ?_
  intro p e s m args below meth c ls A Q hA hQ hC hr hk hW hl
  have hx := hC.1
  have hb := hC.2.1
  have hown := hC.2.2.2.1
  have hts := hC.2.2.2.2
  have hl : lv_has ls 16 [(0, .ref (ad 0)), (1, .int p0), (2, .int p1), (3, .int p2), (4, .int p3)] := hl
  have f71 := hts _ (wu_in w_5_23)
  have i9 := (fun w h => wu_in (inc_9 w h) : ∀ w ∈ u_ws RX9 TX9 40, w ∈ (wu yX9_duelLays cX9_duelLays 16 none))
  have f74 := hts _ (wu_in w_6_0)
  have f365 := hts _ (wu_in w_46_12)
  have f368 := hts _ (wu_in w_46_13)
  unfold m_X9_duelLays at h
  refine lv_aload_n hx hb dX9_duelLays_0 rfl (lv_at hl 0 rfl) ?_
  refine lv_iload_n hx hb dX9_duelLays_1 rfl (lv_at hl 1 rfl) ?_
  refine lv_iload_n hx hb dX9_duelLays_2 rfl (lv_at hl 2 rfl) ?_
  obtain ⟨r1, hr2, h⟩ := bd_of h
  refine wd_callV1 (As := [.int p0, .int p1]) hC hW 0 wR_c0 rfl (c_X9_isOneCalled l D cy ad X T p0 p1 r1 hr2) (cwV 2 hts (gu_V w_47_5 w_47_2 w_47_3 w_47_4 w_1_5) rfl rfl rfl hdX9_isOneCalled ⟨Nat.le_of_ble_eq_true rfl, Nat.le_of_ble_eq_true rfl⟩) rfl hl.1 rfl (Nat.le_of_ble_eq_true rfl) ⟨Nat.zero_le _, Nat.zero_le _⟩ dX9_duelLays_3 (fun H locs hW => ?_)
  refine lv_istore (lv' := [(5, .int r1), (0, .ref (ad 0)), (1, .int p0), (2, .int p1), (3, .int p2), (4, .int p3)]) hx hb dX9_duelLays_6 hl (by decide) rfl (fun ls hl => ?_)
  refine lv_iload hx hb dX9_duelLays_8 (lv_at hl 0 rfl) ?_
  obtain ⟨q4, hq5, h⟩ := bd_of h
  have hJ24 : ∀ (H : Heap) (locs : List Loc) (ls : Array Slot), Wd D cy A s (wR ad cy T ++ X) H locs → lv_has ls 16 [(5, .int r1), (0, .ref (ad 0)), (1, .int p0), (2, .int p1), (3, .int p2), (4, .int p3)] → W p l e (RM 5) s m args below meth c H locs 0 0 Q (F0 m 24 ls [.int q4]) := by
    intro H locs ls hW hl
    refine lv_istore (lv' := [(6, .int q4), (5, .int r1), (0, .ref (ad 0)), (1, .int p0), (2, .int p1), (3, .int p2), (4, .int p3)]) hx hb dX9_duelLays_24 hl (by decide) rfl (fun ls hl => ?_)
    refine lv_iload hx hb dX9_duelLays_26 (lv_at hl 1 rfl) ?_
    obtain ⟨q7, hq8, h⟩ := bd_of h
    have hJ36 : ∀ (H : Heap) (locs : List Loc) (ls : Array Slot), Wd D cy A s (wR ad cy T ++ X) H locs → lv_has ls 16 [(6, .int q4), (5, .int r1), (0, .ref (ad 0)), (1, .int p0), (2, .int p1), (3, .int p2), (4, .int p3)] → W p l e (RM 5) s m args below meth c H locs 0 0 Q (F0 m 36 ls [.int q7]) := by
      intro H locs ls hW hl
      refine lv_istore (lv' := [(7, .int q7), (6, .int q4), (5, .int r1), (0, .ref (ad 0)), (1, .int p0), (2, .int p1), (3, .int p2), (4, .int p3)]) hx hb dX9_duelLays_36 hl (by decide) rfl (fun ls hl => ?_)
      refine lv_iload hx hb dX9_duelLays_38 (lv_at hl 2 rfl) ?_
      obtain ⟨q10, hq11, h⟩ := bd_of h
      have hJ49 : ∀ (H : Heap) (locs : List Loc) (ls : Array Slot), Wd D cy A s (wR ad cy T ++ X) H locs → lv_has ls 16 [(7, .int q7), (6, .int q4), (5, .int r1), (0, .ref (ad 0)), (1, .int p0), (2, .int p1), (3, .int p2), (4, .int p3)] → W p l e (RM 5) s m args below meth c H locs 0 0 Q (F0 m 49 ls [.int q10]) := by
        intro H locs ls hW hl
        refine lv_istore (lv' := [(8, .int q10), (7, .int q7), (6, .int q4), (5, .int r1), (0, .ref (ad 0)), (1, .int p0), (2, .int p1), (3, .int p2), (4, .int p3)]) hx hb dX9_duelLays_49 hl (by decide) rfl (fun ls hl => ?_)
        refine lv_iload hx hb dX9_duelLays_51 (lv_at hl 3 rfl) ?_
        obtain ⟨q13, hq14, h⟩ := bd_of h
        have hJ61 : ∀ (H : Heap) (locs : List Loc) (ls : Array Slot), Wd D cy A s (wR ad cy T ++ X) H locs → lv_has ls 16 [(8, .int q10), (7, .int q7), (6, .int q4), (5, .int r1), (0, .ref (ad 0)), (1, .int p0), (2, .int p1), (3, .int p2), (4, .int p3)] → W p l e (RM 5) s m args below meth c H locs 0 0 Q (F0 m 61 ls [.int q13]) := by
          intro H locs ls hW hl
          refine lv_istore (lv' := [(9, .int q13), (8, .int q10), (7, .int q7), (6, .int q4), (5, .int r1), (0, .ref (ad 0)), (1, .int p0), (2, .int p1), (3, .int p2), (4, .int p3)]) hx hb dX9_duelLays_61 hl (by decide) rfl (fun ls hl => ?_)
          refine lv_aload_n hx hb dX9_duelLays_63 rfl (lv_at hl 5 rfl) ?_
          refine lv_iload hx hb dX9_duelLays_64 (lv_at hl 4 rfl) ?_
          obtain ⟨q16, hq17, h⟩ := bd_of h
          have hJ80 : ∀ (H : Heap) (locs : List Loc) (ls : Array Slot), Wd D cy A s (wR ad cy T ++ X) H locs → lv_has ls 16 [(9, .int q13), (8, .int q10), (7, .int q7), (6, .int q4), (5, .int r1), (0, .ref (ad 0)), (1, .int p0), (2, .int p1), (3, .int p2), (4, .int p3)] → W p l e (RM 5) s m args below meth c H locs 0 0 Q (F0 m 80 ls [.int q16, .ref (ad 0)]) := by
            intro H locs ls hW hl
            refine lv_iload hx hb dX9_duelLays_80 (lv_at hl 0 rfl) ?_
            refine lv_iload hx hb dX9_duelLays_82 (lv_at hl 1 rfl) ?_
            refine lv_aload_n hx hb dX9_duelLays_84 rfl (lv_at hl 5 rfl) ?_
            refine lv_iload hx hb dX9_duelLays_85 (lv_at hl 3 rfl) ?_
            refine lv_iload hx hb dX9_duelLays_87 (lv_at hl 2 rfl) ?_
            refine lv_iconst (v := 1) hx hb dX9_duelLays_89 (by decide) ?_
            obtain ⟨r18, hr19, h⟩ := bd_of h
            refine wd_callV1 (As := [.int q4, .int q7, .int 1]) hC hW 0 wR_c0 rfl (c_X9_duelBest l D cy ad X T q4 q7 1 r18 hr19) (cwV 3 hts (gu_V w_47_9 w_47_6 w_47_7 w_47_8 w_1_5) rfl rfl rfl hdX9_duelBest ⟨Nat.le_of_ble_eq_true rfl, Nat.le_of_ble_eq_true rfl⟩) rfl hl.1 rfl (Nat.le_of_ble_eq_true rfl) ⟨Nat.zero_le _, Nat.zero_le _⟩ dX9_duelLays_90 (fun H locs hW => ?_)
            obtain ⟨r20, hr21, h⟩ := bd_of h
            refine wd_callV1 (As := [.int q16, .int q13, .int q10, .int r18]) hC hW 0 wR_c0 rfl (c_X9_duelChoosesLast l D cy ad X n T q16 q13 q10 r18 r20 hr21) (cwV 4 hts (gu_V w_47_13 w_47_10 w_47_11 w_47_12 w_1_5) rfl rfl rfl hdX9_duelChoosesLast ⟨Nat.le_of_ble_eq_true rfl, Nat.le_of_ble_eq_true rfl⟩) rfl hl.1 rfl (Nat.le_of_ble_eq_true rfl) ⟨Nat.zero_le _, Nat.zero_le _⟩ dX9_duelLays_93 (fun H locs hW => ?_)
            refine lv_istore (lv' := [(10, .int r20), (9, .int q13), (8, .int q10), (7, .int q7), (6, .int q4), (5, .int r1), (0, .ref (ad 0)), (1, .int p0), (2, .int p1), (3, .int p2), (4, .int p3)]) hx hb dX9_duelLays_96 hl (by decide) rfl (fun ls hl => ?_)
            refine lv_aload_n hx hb dX9_duelLays_98 rfl (lv_at hl 6 rfl) ?_
            refine lv_iload hx hb dX9_duelLays_99 (lv_at hl 5 rfl) ?_
            obtain ⟨q23, hq24, h⟩ := bd_of h
            have hJ115 : ∀ (H : Heap) (locs : List Loc) (ls : Array Slot), Wd D cy A s (wR ad cy T ++ X) H locs → lv_has ls 16 [(10, .int r20), (9, .int q13), (8, .int q10), (7, .int q7), (6, .int q4), (5, .int r1), (0, .ref (ad 0)), (1, .int p0), (2, .int p1), (3, .int p2), (4, .int p3)] → W p l e (RM 5) s m args below meth c H locs 0 0 Q (F0 m 115 ls [.int q23, .ref (ad 0)]) := by
              intro H locs ls hW hl
              refine lv_iload hx hb dX9_duelLays_115 (lv_at hl 1 rfl) ?_
              refine lv_iload hx hb dX9_duelLays_117 (lv_at hl 2 rfl) ?_
              refine lv_aload_n hx hb dX9_duelLays_119 rfl (lv_at hl 6 rfl) ?_
              refine lv_iload hx hb dX9_duelLays_120 (lv_at hl 4 rfl) ?_
              refine lv_iload hx hb dX9_duelLays_122 (lv_at hl 3 rfl) ?_
              refine lv_iconst (v := 0) hx hb dX9_duelLays_124 (by decide) ?_
              obtain ⟨r25, hr26, h⟩ := bd_of h
              refine wd_callV1 (As := [.int q4, .int q7, .int 0]) hC hW 0 wR_c0 rfl (c_X9_duelBest l D cy ad X T q4 q7 0 r25 hr26) (cwV 3 hts (gu_V w_47_9 w_47_6 w_47_7 w_47_8 w_1_5) rfl rfl rfl hdX9_duelBest ⟨Nat.le_of_ble_eq_true rfl, Nat.le_of_ble_eq_true rfl⟩) rfl hl.1 rfl (Nat.le_of_ble_eq_true rfl) ⟨Nat.zero_le _, Nat.zero_le _⟩ dX9_duelLays_125 (fun H locs hW => ?_)
              obtain ⟨r27, hr28, h⟩ := bd_of h
              refine wd_callV1 (As := [.int q23, .int q13, .int q10, .int r25]) hC hW 0 wR_c0 rfl (c_X9_duelChoosesLast l D cy ad X n T q23 q13 q10 r25 r27 hr28) (cwV 4 hts (gu_V w_47_13 w_47_10 w_47_11 w_47_12 w_1_5) rfl rfl rfl hdX9_duelChoosesLast ⟨Nat.le_of_ble_eq_true rfl, Nat.le_of_ble_eq_true rfl⟩) rfl hl.1 rfl (Nat.le_of_ble_eq_true rfl) ⟨Nat.zero_le _, Nat.zero_le _⟩ dX9_duelLays_128 (fun H locs hW => ?_)
              refine lv_istore (lv' := [(11, .int r27), (10, .int r20), (9, .int q13), (8, .int q10), (7, .int q7), (6, .int q4), (5, .int r1), (0, .ref (ad 0)), (1, .int p0), (2, .int p1), (3, .int p2), (4, .int p3)]) hx hb dX9_duelLays_131 hl (by decide) rfl (fun ls hl => ?_)
              refine lv_aload_n hx hb dX9_duelLays_133 rfl (lv_at hl 7 rfl) ?_
              refine lv_iload hx hb dX9_duelLays_134 (lv_at hl 5 rfl) ?_
              refine lv_iload hx hb dX9_duelLays_136 (lv_at hl 4 rfl) ?_
              refine lv_iload hx hb dX9_duelLays_138 (lv_at hl 1 rfl) ?_
              refine lv_iload hx hb dX9_duelLays_140 (lv_at hl 0 rfl) ?_
              obtain ⟨r29, hr30, h⟩ := bd_of h
              refine wd_callV1 (As := [.int q4, .int q7, .int r20, .int r27]) hC hW 0 wR_c0 rfl (c_X9_duelTry l D cy ad X n T q4 q7 r20 r27 r29 hr30) (cwV 4 hts (gu_V w_48_1 w_47_22 w_47_23 w_48_0 w_1_5) rfl rfl rfl hdX9_duelTry ⟨Nat.le_of_ble_eq_true rfl, Nat.le_of_ble_eq_true rfl⟩) rfl hl.1 rfl (Nat.le_of_ble_eq_true rfl) ⟨Nat.zero_le _, Nat.zero_le _⟩ dX9_duelLays_142 (fun H locs hW => ?_)
              refine lv_istore (lv' := [(12, .int r29), (11, .int r27), (10, .int r20), (9, .int q13), (8, .int q10), (7, .int q7), (6, .int q4), (5, .int r1), (0, .ref (ad 0)), (1, .int p0), (2, .int p1), (3, .int p2), (4, .int p3)]) hx hb dX9_duelLays_145 hl (by decide) rfl (fun ls hl => ?_)
              refine lv_iconst (v := 0) hx hb dX9_duelLays_147 (by decide) ?_
              refine lv_istore (lv' := [(13, .int 0), (12, .int r29), (11, .int r27), (10, .int r20), (9, .int q13), (8, .int q10), (7, .int q7), (6, .int q4), (5, .int r1), (0, .ref (ad 0)), (1, .int p0), (2, .int p1), (3, .int p2), (4, .int p3)]) hx hb dX9_duelLays_148 hl (by decide) rfl (fun ls hl => ?_)
              refine lv_iload hx hb dX9_duelLays_150 (lv_at hl 6 rfl) ?_
              refine lv_iconst (v := 1) hx hb dX9_duelLays_152 (by decide) ?_
              refine lv_iadd hx hb dX9_duelLays_153 ?_
              refine lv_istore (lv' := [(14, .int (q7 + 1)), (13, .int 0), (12, .int r29), (11, .int r27), (10, .int r20), (9, .int q13), (8, .int q10), (7, .int q7), (6, .int q4), (5, .int r1), (0, .ref (ad 0)), (1, .int p0), (2, .int p1), (3, .int p2), (4, .int p3)]) hx hb dX9_duelLays_154 hl (by decide) rfl (fun ls hl => ?_)
              have hL156 : ∀ (n : Nat) (x1 : Int32) (x2 : Int32) (x3 : Int32) (x4 : Int32) (x5 : Int32) (x12 : Int32) (x13 : Int32) (x14 : Int32)  (H : Heap) (locs : List Loc) (ls : Array Slot) (r : (Int32 × Int32)), m_X9_duelLays_L156 n T x1 x2 x3 x4 x5 x12 x13 x14 = some r → Wd D cy A s (wR ad cy T ++ X) H locs → lv_has ls 16 [(0, .ref (ad 0)), (1, .int x1), (2, .int x2), (3, .int x3), (4, .int x4), (5, .int x5), (12, .int x12), (13, .int x13), (14, .int x14)] → (∀ (H : Heap) (locs : List Loc) (ls : Array Slot), Wd D cy A s (wR ad cy T ++ X) H locs → lv_has ls 16 [(0, .ref (ad 0)), (1, .int x1), (2, .int x2), (3, .int x3), (4, .int x4), (5, .int x5), (12, .int r.1), (13, .int r.2)] → W p l e (RM 5) s m args below meth c H locs 0 0 Q (F0 m 248 ls [])) → W p l e (RM 5) s m args below meth c H locs 0 0 Q (F0 m 156 ls []) := by
                intro n
                induction n with
                | zero =>
                  intro x1 x2 x3 x4 x5 x12 x13 x14  H locs ls r h
                  exact absurd (h.symm.trans (m_X9_duelLays_L156_0 ..)) (by simp)
                | succ n ih =>
                  intro x1 x2 x3 x4 x5 x12 x13 x14  H locs ls r h hW hl kk
                  rw [m_X9_duelLays_L156_s] at h
                  refine lv_iload hx hb dX9_duelLays_156 (lv_at hl 8 rfl) ?_
                  refine lv_bipush (v := 40) hx hb dX9_duelLays_158 (by decide) ?_
                  refine lv_icmp_gt (tgt := 248) hx hb dX9_duelLays_160 (by decide) (fun c33 => ?_) (fun c33 => ?_)
                  · replace h := ite_t h c33
                    obtain rfl := Option.some.inj h
                    exact kk _ _ _ hW (lv_sub hl [0, 1, 2, 3, 4, 5, 6, 7] rfl)
                  · replace h := ite_f h c33
                    refine lv_iload hx hb dX9_duelLays_163 (lv_at hl 5 rfl) ?_
                    obtain ⟨q35, hq36, h⟩ := bd_of h
                    have hJ174 : ∀ (H : Heap) (locs : List Loc) (ls : Array Slot), Wd D cy A s (wR ad cy T ++ X) H locs → lv_has ls 16 [(0, .ref (ad 0)), (1, .int x1), (2, .int x2), (3, .int x3), (4, .int x4), (5, .int x5), (12, .int x12), (13, .int x13), (14, .int x14)] → W p l e (RM 5) s m args below meth c H locs 0 0 Q (F0 m 174 ls [.int q35]) := by
                      intro H locs ls hW hl
                      refine lv_if_le (tgt := 248) hx hb dX9_duelLays_174 (by decide) (fun c37 => ?_) (fun c37 => ?_)
                      · replace h := ite_t h c37
                        obtain rfl := Option.some.inj h
                        exact kk _ _ _ hW (lv_sub hl [0, 1, 2, 3, 4, 5, 6, 7] rfl)
                      · replace h := ite_f h c37
                        refine lv_iload hx hb dX9_duelLays_177 (lv_at hl 5 rfl) ?_
                        obtain ⟨q39, hq40, h⟩ := bd_of h
                        have hJ217 : ∀ (H : Heap) (locs : List Loc) (ls : Array Slot), Wd D cy A s (wR ad cy T ++ X) H locs → lv_has ls 16 [(0, .ref (ad 0)), (1, .int x1), (2, .int x2), (3, .int x3), (4, .int x4), (5, .int x5), (12, .int x12), (13, .int x13), (14, .int x14)] → W p l e (RM 5) s m args below meth c H locs 0 0 Q (F0 m 217 ls [.int q39]) := by
                          intro H locs ls hW hl
                          refine lv_istore (lv' := [(15, .int q39), (0, .ref (ad 0)), (1, .int x1), (2, .int x2), (3, .int x3), (4, .int x4), (5, .int x5), (12, .int x12), (13, .int x13), (14, .int x14)]) hx hb dX9_duelLays_217 hl (by decide) rfl (fun ls hl => ?_)
                          refine lv_iload hx hb dX9_duelLays_219 (lv_at hl 6 rfl) ?_
                          refine lv_iload hx hb dX9_duelLays_221 (lv_at hl 0 rfl) ?_
                          refine lv_iload hx hb dX9_duelLays_223 (lv_at hl 7 rfl) ?_
                          obtain ⟨r41, hr42, h⟩ := bd_of h
                          refine wd_callS1 (As := [.int x5, .int q39, .int x12]) hC hW (c_X9_isBetter l D cy ad X T x5 q39 x12 r41 hr42) (va_cwS 3 hts (gu_S w_48_4 w_48_2 w_48_3 w_1_5) rfl rfl rfl hdX9_isBetter ⟨Nat.le_of_ble_eq_true rfl, Nat.le_of_ble_eq_true rfl⟩) rfl hl.1 rfl (Nat.le_of_ble_eq_true rfl) ⟨Nat.zero_le _, Nat.zero_le _⟩ dX9_duelLays_225 (fun H locs hW => ?_)
                          refine lv_if_ne (tgt := 234) hx hb dX9_duelLays_228 (by decide) (fun c43 => ?_) (fun c43 => ?_)
                          · replace h := ite_f h c43
                            refine lv_iload hx hb dX9_duelLays_234 (lv_at hl 0 rfl) ?_
                            refine lv_istore (lv' := [(12, .int q39), (15, .int q39), (0, .ref (ad 0)), (1, .int x1), (2, .int x2), (3, .int x3), (4, .int x4), (5, .int x5), (13, .int x13), (14, .int x14)]) hx hb dX9_duelLays_236 hl (by decide) rfl (fun ls hl => ?_)
                            refine lv_iload hx hb dX9_duelLays_238 (lv_at hl 9 rfl) ?_
                            refine lv_istore (lv' := [(13, .int x14), (12, .int q39), (15, .int q39), (0, .ref (ad 0)), (1, .int x1), (2, .int x2), (3, .int x3), (4, .int x4), (5, .int x5), (14, .int x14)]) hx hb dX9_duelLays_240 hl (by decide) rfl (fun ls hl => ?_)
                            refine lv_iinc (v := x14 + 1) (lv' := [(14, .int (x14 + 1)), (13, .int x14), (12, .int q39), (15, .int q39), (0, .ref (ad 0)), (1, .int x1), (2, .int x2), (3, .int x3), (4, .int x4), (5, .int x5)]) hx hb dX9_duelLays_242 hl (k := 9) rfl rfl (by decide) rfl (fun ls hl => ?_)
                            refine lv_goto (tgt := 156) hx hb dX9_duelLays_245 (by decide) ?_
                            exact ih x1 x2 x3 x4 x5 q39 x14 (x14 + 1) _ _ _ r h hW (lv_sub hl [4, 5, 6, 7, 8, 9, 2, 1, 0] rfl) kk
                          · replace h := ite_t h c43
                            refine lv_goto (tgt := 242) hx hb dX9_duelLays_231 (by decide) ?_
                            refine lv_iinc (v := x14 + 1) (lv' := [(14, .int (x14 + 1)), (15, .int q39), (0, .ref (ad 0)), (1, .int x1), (2, .int x2), (3, .int x3), (4, .int x4), (5, .int x5), (12, .int x12), (13, .int x13)]) hx hb dX9_duelLays_242 hl (k := 9) rfl rfl (by decide) rfl (fun ls hl => ?_)
                            refine lv_goto (tgt := 156) hx hb dX9_duelLays_245 (by decide) ?_
                            exact ih x1 x2 x3 x4 x5 x12 x13 (x14 + 1) _ _ _ r h hW (lv_sub hl [2, 3, 4, 5, 6, 7, 8, 9, 0] rfl) kk
                        replace h := hq40
                        refine lv_if_eq (tgt := 201) hx hb dX9_duelLays_179 (by decide) (fun c38 => ?_) (fun c38 => ?_)
                        · replace h := ite_t h c38
                          refine lv_aload_n hx hb dX9_duelLays_201 rfl (lv_at hl 0 rfl) ?_
                          refine wd_get hC i9 hW 0 wR_c0 rfl 37 (Nat.le_of_ble_eq_true rfl) f71 rfl rfl dX9_duelLays_202 ?_
                          refine lv_iload_n hx hb dX9_duelLays_205 rfl (lv_at hl 1 rfl) ?_
                          refine lv_iload hx hb dX9_duelLays_206 (lv_at hl 8 rfl) ?_
                          refine lv_iload_n hx hb dX9_duelLays_208 rfl (lv_at hl 3 rfl) ?_
                          refine lv_iload hx hb dX9_duelLays_209 (lv_at hl 4 rfl) ?_
                          refine lv_iconst (v := 1) hx hb dX9_duelLays_211 (by decide) ?_
                          refine lv_isub hx hb dX9_duelLays_212 ?_
                          obtain ⟨r44, hr45, h⟩ := bd_of h
                          refine wd_callS1 (As := [.int x1, .int x14, .int x3, .int (x4 - 1)]) hC hW (c_X9_duelCell l D cy ad X T x1 x14 x3 (x4 - 1) r44 hr45) (va_cwS 4 hts (gu_S w_48_7 w_48_5 w_48_6 w_1_5) rfl rfl rfl hdX9_duelCell ⟨Nat.le_of_ble_eq_true rfl, Nat.le_of_ble_eq_true rfl⟩) rfl hl.1 rfl (Nat.le_of_ble_eq_true rfl) ⟨Nat.zero_le _, Nat.zero_le _⟩ dX9_duelLays_213 (fun H locs hW => ?_)
                          obtain ⟨hi46, h⟩ := ck_of h
                          refine wd_iald hC hW 21 wR_c21 hi46 dX9_duelLays_216 ?_
                          obtain rfl := Option.some.inj h
                          exact hJ217 _ _ _ hW (lv_sub hl [0, 1, 2, 3, 4, 5, 6, 7, 8] rfl)
                        · replace h := ite_f h c38
                          refine lv_aload_n hx hb dX9_duelLays_182 rfl (lv_at hl 0 rfl) ?_
                          refine wd_get hC i9 hW 0 wR_c0 rfl 37 (Nat.le_of_ble_eq_true rfl) f71 rfl rfl dX9_duelLays_183 ?_
                          refine lv_iload hx hb dX9_duelLays_186 (lv_at hl 8 rfl) ?_
                          refine lv_iload_n hx hb dX9_duelLays_188 rfl (lv_at hl 2 rfl) ?_
                          refine lv_iload_n hx hb dX9_duelLays_189 rfl (lv_at hl 3 rfl) ?_
                          refine lv_iconst (v := 1) hx hb dX9_duelLays_190 (by decide) ?_
                          refine lv_isub hx hb dX9_duelLays_191 ?_
                          refine lv_iload hx hb dX9_duelLays_192 (lv_at hl 4 rfl) ?_
                          obtain ⟨r47, hr48, h⟩ := bd_of h
                          refine wd_callS1 (As := [.int x14, .int x2, .int (x3 - 1), .int x4]) hC hW (c_X9_duelCell l D cy ad X T x14 x2 (x3 - 1) x4 r47 hr48) (va_cwS 4 hts (gu_S w_48_7 w_48_5 w_48_6 w_1_5) rfl rfl rfl hdX9_duelCell ⟨Nat.le_of_ble_eq_true rfl, Nat.le_of_ble_eq_true rfl⟩) rfl hl.1 rfl (Nat.le_of_ble_eq_true rfl) ⟨Nat.zero_le _, Nat.zero_le _⟩ dX9_duelLays_194 (fun H locs hW => ?_)
                          obtain ⟨hi49, h⟩ := ck_of h
                          refine wd_iald hC hW 21 wR_c21 hi49 dX9_duelLays_197 ?_
                          refine lv_goto (tgt := 217) hx hb dX9_duelLays_198 (by decide) ?_
                          obtain rfl := Option.some.inj h
                          exact hJ217 _ _ _ hW (lv_sub hl [0, 1, 2, 3, 4, 5, 6, 7, 8] rfl)
                    replace h := hq36
                    refine lv_if_eq (tgt := 172) hx hb dX9_duelLays_165 (by decide) (fun c34 => ?_) (fun c34 => ?_)
                    · replace h := ite_t h c34
                      refine lv_iload hx hb dX9_duelLays_172 (lv_at hl 4 rfl) ?_
                      obtain rfl := Option.some.inj h
                      exact hJ174 _ _ _ hW (lv_sub hl [0, 1, 2, 3, 4, 5, 6, 7, 8] rfl)
                    · replace h := ite_f h c34
                      refine lv_iload_n hx hb dX9_duelLays_168 rfl (lv_at hl 3 rfl) ?_
                      refine lv_goto (tgt := 174) hx hb dX9_duelLays_169 (by decide) ?_
                      obtain rfl := Option.some.inj h
                      exact hJ174 _ _ _ hW (lv_sub hl [0, 1, 2, 3, 4, 5, 6, 7, 8] rfl)
              obtain ⟨q31, hq32, h⟩ := bd_of h
              refine hL156 n p0 p1 p2 p3 r1 r29 0 (q7 + 1)  _ _ _ q31 hq32 hW (lv_sub hl [10, 11, 12, 13, 14, 9, 2, 1, 0] rfl) (fun H locs ls hW hl => ?_)
              refine lv_aload_n hx hb dX9_duelLays_248 rfl (lv_at hl 0 rfl) ?_
              refine wd_get hC i9 hW 0 wR_c0 rfl 37 (Nat.le_of_ble_eq_true rfl) f71 rfl rfl dX9_duelLays_249 ?_
              refine lv_iload_n hx hb dX9_duelLays_252 rfl (lv_at hl 1 rfl) ?_
              refine lv_iload_n hx hb dX9_duelLays_253 rfl (lv_at hl 2 rfl) ?_
              refine lv_iload_n hx hb dX9_duelLays_254 rfl (lv_at hl 3 rfl) ?_
              refine lv_iload hx hb dX9_duelLays_255 (lv_at hl 4 rfl) ?_
              obtain ⟨r50, hr51, h⟩ := bd_of h
              refine wd_callS1 (As := [.int p0, .int p1, .int p2, .int p3]) hC hW (c_X9_duelCell l D cy ad X T p0 p1 p2 p3 r50 hr51) (va_cwS 4 hts (gu_S w_48_7 w_48_5 w_48_6 w_1_5) rfl rfl rfl hdX9_duelCell ⟨Nat.le_of_ble_eq_true rfl, Nat.le_of_ble_eq_true rfl⟩) rfl hl.1 rfl (Nat.le_of_ble_eq_true rfl) ⟨Nat.zero_le _, Nat.zero_le _⟩ dX9_duelLays_257 (fun H locs hW => ?_)
              refine lv_iload hx hb dX9_duelLays_260 (lv_at hl 6 rfl) ?_
              obtain ⟨hi52, h⟩ := ck_of h
              refine wd_iast hC hW 21 wR_c21 hi52 wR_t21 dX9_duelLays_262 (fun H locs hW => ?_)
              obtain ⟨T53, e54, h⟩ := nm_of h
              replace hW := wq_T e54 hW
              refine lv_aload_n hx hb dX9_duelLays_263 rfl (lv_at hl 0 rfl) ?_
              refine wd_get hC i9 hW 0 wR_c0 rfl 38 (Nat.le_of_ble_eq_true rfl) f74 rfl rfl dX9_duelLays_264 ?_
              refine lv_iload_n hx hb dX9_duelLays_267 rfl (lv_at hl 1 rfl) ?_
              refine lv_iload_n hx hb dX9_duelLays_268 rfl (lv_at hl 2 rfl) ?_
              refine lv_iload_n hx hb dX9_duelLays_269 rfl (lv_at hl 3 rfl) ?_
              refine lv_iload hx hb dX9_duelLays_270 (lv_at hl 4 rfl) ?_
              obtain ⟨r55, hr56, h⟩ := bd_of h
              refine wd_callS1 (As := [.int p0, .int p1, .int p2, .int p3]) hC hW (c_X9_duelCell l D cy ad X T53 p0 p1 p2 p3 r55 hr56) (va_cwS 4 hts (gu_S w_48_7 w_48_5 w_48_6 w_1_5) rfl rfl rfl hdX9_duelCell ⟨Nat.le_of_ble_eq_true rfl, Nat.le_of_ble_eq_true rfl⟩) rfl hl.1 rfl (Nat.le_of_ble_eq_true rfl) ⟨Nat.zero_le _, Nat.zero_le _⟩ dX9_duelLays_272 (fun H locs hW => ?_)
              refine lv_iload hx hb dX9_duelLays_275 (lv_at hl 7 rfl) ?_
              obtain ⟨hi57, h⟩ := ck_of h
              refine wd_iast hC hW 22 wR_c22 hi57 wR_t22 dX9_duelLays_277 (fun H locs hW => ?_)
              obtain ⟨T58, e59, h⟩ := nm_of h
              replace hW := wq_T e59 hW
              obtain rfl := Option.some.inj h
              exact wd_vret hA hQ hC hr hk hW dX9_duelLays_278
            replace h := hq24
            refine lv_if_eq (tgt := 111) hx hb dX9_duelLays_101 (by decide) (fun c22 => ?_) (fun c22 => ?_)
            · replace h := ite_t h c22
              refine lv_aload_n hx hb dX9_duelLays_111 rfl (lv_at hl 6 rfl) ?_
              refine wd_get hC i9 hW 0 wR_c0 rfl 35 (Nat.le_of_ble_eq_true rfl) f365 rfl rfl dX9_duelLays_112 ?_
              obtain rfl := Option.some.inj h
              exact hJ115 _ _ _ hW (lv_sub hl [0, 1, 2, 3, 4, 5, 6, 7, 8, 9, 10] rfl)
            · replace h := ite_f h c22
              refine lv_aload_n hx hb dX9_duelLays_104 rfl (lv_at hl 6 rfl) ?_
              refine wd_get hC i9 hW 0 wR_c0 rfl 36 (Nat.le_of_ble_eq_true rfl) f368 rfl rfl dX9_duelLays_105 ?_
              refine lv_goto (tgt := 115) hx hb dX9_duelLays_108 (by decide) ?_
              obtain rfl := Option.some.inj h
              exact hJ115 _ _ _ hW (lv_sub hl [0, 1, 2, 3, 4, 5, 6, 7, 8, 9, 10] rfl)
          replace h := hq17
          refine lv_if_eq (tgt := 76) hx hb dX9_duelLays_66 (by decide) (fun c15 => ?_) (fun c15 => ?_)
          · replace h := ite_t h c15
            refine lv_aload_n hx hb dX9_duelLays_76 rfl (lv_at hl 5 rfl) ?_
            refine wd_get hC i9 hW 0 wR_c0 rfl 35 (Nat.le_of_ble_eq_true rfl) f365 rfl rfl dX9_duelLays_77 ?_
            obtain rfl := Option.some.inj h
            exact hJ80 _ _ _ hW (lv_sub hl [0, 1, 2, 3, 4, 5, 6, 7, 8, 9] rfl)
          · replace h := ite_f h c15
            refine lv_aload_n hx hb dX9_duelLays_69 rfl (lv_at hl 5 rfl) ?_
            refine wd_get hC i9 hW 0 wR_c0 rfl 36 (Nat.le_of_ble_eq_true rfl) f368 rfl rfl dX9_duelLays_70 ?_
            refine lv_goto (tgt := 80) hx hb dX9_duelLays_73 (by decide) ?_
            obtain rfl := Option.some.inj h
            exact hJ80 _ _ _ hW (lv_sub hl [0, 1, 2, 3, 4, 5, 6, 7, 8, 9] rfl)
        replace h := hq14
        refine lv_if_eq (tgt := 60) hx hb dX9_duelLays_53 (by decide) (fun c12 => ?_) (fun c12 => ?_)
        · replace h := ite_t h c12
          refine lv_iload_n hx hb dX9_duelLays_60 rfl (lv_at hl 5 rfl) ?_
          obtain rfl := Option.some.inj h
          exact hJ61 _ _ _ hW (lv_sub hl [0, 1, 2, 3, 4, 5, 6, 7, 8] rfl)
        · replace h := ite_f h c12
          refine lv_iload_n hx hb dX9_duelLays_56 rfl (lv_at hl 6 rfl) ?_
          refine lv_goto (tgt := 61) hx hb dX9_duelLays_57 (by decide) ?_
          obtain rfl := Option.some.inj h
          exact hJ61 _ _ _ hW (lv_sub hl [0, 1, 2, 3, 4, 5, 6, 7, 8] rfl)
      replace h := hq11
      refine lv_if_eq (tgt := 48) hx hb dX9_duelLays_40 (by decide) (fun c9 => ?_) (fun c9 => ?_)
      · replace h := ite_t h c9
        refine lv_iload_n hx hb dX9_duelLays_48 rfl (lv_at hl 6 rfl) ?_
        obtain rfl := Option.some.inj h
        exact hJ49 _ _ _ hW (lv_sub hl [0, 1, 2, 3, 4, 5, 6, 7] rfl)
      · replace h := ite_f h c9
        refine lv_iload hx hb dX9_duelLays_43 (lv_at hl 7 rfl) ?_
        refine lv_goto (tgt := 49) hx hb dX9_duelLays_45 (by decide) ?_
        obtain rfl := Option.some.inj h
        exact hJ49 _ _ _ hW (lv_sub hl [0, 1, 2, 3, 4, 5, 6, 7] rfl)
    replace h := hq8
    refine lv_if_eq (tgt := 35) hx hb dX9_duelLays_28 (by decide) (fun c6 => ?_) (fun c6 => ?_)
    · replace h := ite_t h c6
      refine lv_iload_n hx hb dX9_duelLays_35 rfl (lv_at hl 4 rfl) ?_
      obtain rfl := Option.some.inj h
      exact hJ36 _ _ _ hW (lv_sub hl [0, 1, 2, 3, 4, 5, 6] rfl)
    · replace h := ite_f h c6
      refine lv_iload_n hx hb dX9_duelLays_31 rfl (lv_at hl 3 rfl) ?_
      refine lv_goto (tgt := 36) hx hb dX9_duelLays_32 (by decide) ?_
      obtain rfl := Option.some.inj h
      exact hJ36 _ _ _ hW (lv_sub hl [0, 1, 2, 3, 4, 5, 6] rfl)
  replace h := hq5
  refine lv_if_eq (tgt := 20) hx hb dX9_duelLays_10 (by decide) (fun c3 => ?_) (fun c3 => ?_)
  · replace h := ite_t h c3
    refine lv_aload_n hx hb dX9_duelLays_20 rfl (lv_at hl 1 rfl) ?_
    refine wd_get hC i9 hW 0 wR_c0 rfl 36 (Nat.le_of_ble_eq_true rfl) f368 rfl rfl dX9_duelLays_21 ?_
    obtain rfl := Option.some.inj h
    exact hJ24 _ _ _ hW (lv_sub hl [0, 1, 2, 3, 4, 5] rfl)
  · replace h := ite_f h c3
    refine lv_aload_n hx hb dX9_duelLays_13 rfl (lv_at hl 1 rfl) ?_
    refine wd_get hC i9 hW 0 wR_c0 rfl 35 (Nat.le_of_ble_eq_true rfl) f365 rfl rfl dX9_duelLays_14 ?_
    refine lv_goto (tgt := 24) hx hb dX9_duelLays_17 (by decide) ?_
    obtain rfl := Option.some.inj h
    exact hJ24 _ _ _ hW (lv_sub hl [0, 1, 2, 3, 4, 5] rfl)
def m_X9_duelAt_L77 : Nat → St → Int32 → Int32 → Int32 → Int32 → Int32 → Int32 → Int32 → Int32 → Int32 → Option (St)
  | 0, _, _, _, _, _, _, _, _, _, _ => none
  | n + 1, T, x1, x2, x3, x4, x5, x6, x7, x8, x9 =>
    if 40 < x9 then (some T) else ((m_X9_duelLays n T x8 x9 x6 x7).bind (fun r20 => m_X9_duelAt_L77 n r20 x1 x2 x3 x4 x5 x6 x7 x8 (x9 + 1)))
theorem m_X9_duelAt_L77_0 (T : St) (x1 : Int32) (x2 : Int32) (x3 : Int32) (x4 : Int32) (x5 : Int32) (x6 : Int32) (x7 : Int32) (x8 : Int32) (x9 : Int32) : m_X9_duelAt_L77 0 T x1 x2 x3 x4 x5 x6 x7 x8 x9 = none := rfl
theorem m_X9_duelAt_L77_s {n : Nat} {T : St} {x1 : Int32} {x2 : Int32} {x3 : Int32} {x4 : Int32} {x5 : Int32} {x6 : Int32} {x7 : Int32} {x8 : Int32} {x9 : Int32} : m_X9_duelAt_L77 (n + 1) T x1 x2 x3 x4 x5 x6 x7 x8 x9 =
    (if 40 < x9 then (some T) else ((m_X9_duelLays n T x8 x9 x6 x7).bind (fun r20 => m_X9_duelAt_L77 n r20 x1 x2 x3 x4 x5 x6 x7 x8 (x9 + 1)))) := rfl
def m_X9_duelAt_L66 : Nat → St → Int32 → Int32 → Int32 → Int32 → Int32 → Int32 → Int32 → Int32 → Option (St)
  | 0, _, _, _, _, _, _, _, _, _ => none
  | n + 1, T, x1, x2, x3, x4, x5, x6, x7, x8 =>
    if 40 < x8 then (some T) else ((m_X9_duelAt_L77 n T x1 x2 x3 x4 x5 x6 x7 x8 x4).bind (fun q17 => m_X9_duelAt_L66 n q17 x1 x2 x3 x4 x5 x6 x7 (x8 + 1)))
theorem m_X9_duelAt_L66_0 (T : St) (x1 : Int32) (x2 : Int32) (x3 : Int32) (x4 : Int32) (x5 : Int32) (x6 : Int32) (x7 : Int32) (x8 : Int32) : m_X9_duelAt_L66 0 T x1 x2 x3 x4 x5 x6 x7 x8 = none := rfl
theorem m_X9_duelAt_L66_s {n : Nat} {T : St} {x1 : Int32} {x2 : Int32} {x3 : Int32} {x4 : Int32} {x5 : Int32} {x6 : Int32} {x7 : Int32} {x8 : Int32} : m_X9_duelAt_L66 (n + 1) T x1 x2 x3 x4 x5 x6 x7 x8 =
    (if 40 < x8 then (some T) else ((m_X9_duelAt_L77 n T x1 x2 x3 x4 x5 x6 x7 x8 x4).bind (fun q17 => m_X9_duelAt_L66 n q17 x1 x2 x3 x4 x5 x6 x7 (x8 + 1)))) := rfl
def m_X9_duelAt_L35 : Nat → St → Int32 → Int32 → Int32 → Int32 → Int32 → Int32 → Option (St)
  | 0, _, _, _, _, _, _, _ => none
  | n + 1, T, x1, x2, x3, x4, x5, x6 =>
    if x1 < x6 then (some T) else ((m_X9_in T ((x5 - x6).toInt64) 0 x2.toInt64).bind (fun r11 => if r11 = 0 then (m_X9_duelAt_L35 n T x1 x2 x3 x4 x5 (x6 + 1)) else ((m_X9_duelAt_L66 n T x1 x2 x3 x4 x5 x6 (x5 - x6) x3).bind (fun q14 => m_X9_duelAt_L35 n q14 x1 x2 x3 x4 x5 (x6 + 1)))))
theorem m_X9_duelAt_L35_0 (T : St) (x1 : Int32) (x2 : Int32) (x3 : Int32) (x4 : Int32) (x5 : Int32) (x6 : Int32) : m_X9_duelAt_L35 0 T x1 x2 x3 x4 x5 x6 = none := rfl
theorem m_X9_duelAt_L35_s {n : Nat} {T : St} {x1 : Int32} {x2 : Int32} {x3 : Int32} {x4 : Int32} {x5 : Int32} {x6 : Int32} : m_X9_duelAt_L35 (n + 1) T x1 x2 x3 x4 x5 x6 =
    (if x1 < x6 then (some T) else ((m_X9_in T ((x5 - x6).toInt64) 0 x2.toInt64).bind (fun r11 => if r11 = 0 then (m_X9_duelAt_L35 n T x1 x2 x3 x4 x5 (x6 + 1)) else ((m_X9_duelAt_L66 n T x1 x2 x3 x4 x5 x6 (x5 - x6) x3).bind (fun q14 => m_X9_duelAt_L35 n q14 x1 x2 x3 x4 x5 (x6 + 1)))))) := rfl
def m_X9_duelAt_L24 : Nat → St → Int32 → Int32 → Int32 → Int32 → Int32 → Option (St)
  | 0, _, _, _, _, _, _ => none
  | n + 1, T, x1, x2, x3, x4, x5 =>
    if (x1 + x2) < x5 then (some T) else ((m_X9_duelAt_L35 n T x1 x2 x3 x4 x5 0).bind (fun q8 => m_X9_duelAt_L24 n q8 x1 x2 x3 x4 (x5 + 1)))
theorem m_X9_duelAt_L24_0 (T : St) (x1 : Int32) (x2 : Int32) (x3 : Int32) (x4 : Int32) (x5 : Int32) : m_X9_duelAt_L24 0 T x1 x2 x3 x4 x5 = none := rfl
theorem m_X9_duelAt_L24_s {n : Nat} {T : St} {x1 : Int32} {x2 : Int32} {x3 : Int32} {x4 : Int32} {x5 : Int32} : m_X9_duelAt_L24 (n + 1) T x1 x2 x3 x4 x5 =
    (if (x1 + x2) < x5 then (some T) else ((m_X9_duelAt_L35 n T x1 x2 x3 x4 x5 0).bind (fun q8 => m_X9_duelAt_L24 n q8 x1 x2 x3 x4 (x5 + 1)))) := rfl
def m_X9_duelAt (n : Nat) (T : St) (p0 : Int32) (p1 : Int32) : Option (Int32 × St) :=
  (m_X9_of T (T.1 35) 0).bind (fun r1 => (m_X9_of T (T.1 36) 0).bind (fun r3 => (m_X9_duelAt_L24 n T p0 p1 r1 r3 0).bind (fun q5 => (m_X9_duelCell q5 r1 r3 p0 p1).bind (fun r22 => ck r22 15129 (some (q5.2.1 37 r22.toNatClampNeg, q5))))))
set_option maxHeartbeats 4000000 in
set_option maxRecDepth 100000 in
theorem c_X9_duelAt (l : Launch) (D : va_G) (cy : Nat → ClassId) (ad : Nat → Nat) (X : va_W) (n : Nat) (T : St) (p0 : Int32) (p1 : Int32) (r : (Int32 × St)) (h : m_X9_duelAt n T p0 p1 = some r) : CT l yX9_duelAt (wu yX9_duelAt cX9_duelAt 10 (some .int)) 6 D cy [.ref (ad 0), .int p0, .int p1] (wR ad cy T ++ X) (some (.int r.1)) (wR ad cy r.2 ++ X) := by
  refine CT.mk (cc := cX9_duelAt) (maxL := 10) (ret := (some .int)) (own := RX9) (by decide) rfl rfl (Nat.le_of_ble_eq_true rfl) ?_
  intro p e s m args below meth c ls A Q hA hQ hC hr hk hW hl
  have hx := hC.1
  have hb := hC.2.1
  have hown := hC.2.2.2.1
  have hts := hC.2.2.2.2
  have hl : lv_has ls 10 [(0, .ref (ad 0)), (1, .int p0), (2, .int p1)] := hl
  have f365 := hts _ (wu_in w_46_12)
  have i9 := (fun w h => wu_in (inc_9 w h) : ∀ w ∈ u_ws RX9 TX9 40, w ∈ (wu yX9_duelAt cX9_duelAt 10 (some .int)))
  have f368 := hts _ (wu_in w_46_13)
  have f71 := hts _ (wu_in w_5_23)
  unfold m_X9_duelAt at h
  refine lv_aload_n hx hb dX9_duelAt_0 rfl (lv_at hl 0 rfl) ?_
  refine lv_aload_n hx hb dX9_duelAt_1 rfl (lv_at hl 0 rfl) ?_
  refine wd_get hC i9 hW 0 wR_c0 rfl 35 (Nat.le_of_ble_eq_true rfl) f365 rfl rfl dX9_duelAt_2 ?_
  refine lv_iconst (v := 0) hx hb dX9_duelAt_5 (by decide) ?_
  obtain ⟨r1, hr2, h⟩ := bd_of h
  refine wd_callV1 (As := [.int (T.1 35), .int 0]) hC hW 0 wR_c0 rfl (c_X9_of l D cy ad X T (T.1 35) 0 r1 hr2) (cwV 2 hts (gu_V w_12_0 w_11_21 w_11_22 w_11_23 w_1_5) rfl rfl rfl hdX9_of ⟨Nat.le_of_ble_eq_true rfl, Nat.le_of_ble_eq_true rfl⟩) rfl hl.1 rfl (Nat.le_of_ble_eq_true rfl) ⟨Nat.zero_le _, Nat.zero_le _⟩ dX9_duelAt_6 (fun H locs hW => ?_)
  refine lv_istore_n (lv' := [(3, .int r1), (0, .ref (ad 0)), (1, .int p0), (2, .int p1)]) hx hb dX9_duelAt_9 rfl hl (by decide) rfl (fun ls hl => ?_)
  refine lv_aload_n hx hb dX9_duelAt_10 rfl (lv_at hl 1 rfl) ?_
  refine lv_aload_n hx hb dX9_duelAt_11 rfl (lv_at hl 1 rfl) ?_
  refine wd_get hC i9 hW 0 wR_c0 rfl 36 (Nat.le_of_ble_eq_true rfl) f368 rfl rfl dX9_duelAt_12 ?_
  refine lv_iconst (v := 0) hx hb dX9_duelAt_15 (by decide) ?_
  obtain ⟨r3, hr4, h⟩ := bd_of h
  refine wd_callV1 (As := [.int (T.1 36), .int 0]) hC hW 0 wR_c0 rfl (c_X9_of l D cy ad X T (T.1 36) 0 r3 hr4) (cwV 2 hts (gu_V w_12_0 w_11_21 w_11_22 w_11_23 w_1_5) rfl rfl rfl hdX9_of ⟨Nat.le_of_ble_eq_true rfl, Nat.le_of_ble_eq_true rfl⟩) rfl hl.1 rfl (Nat.le_of_ble_eq_true rfl) ⟨Nat.zero_le _, Nat.zero_le _⟩ dX9_duelAt_16 (fun H locs hW => ?_)
  refine lv_istore (lv' := [(4, .int r3), (3, .int r1), (0, .ref (ad 0)), (1, .int p0), (2, .int p1)]) hx hb dX9_duelAt_19 hl (by decide) rfl (fun ls hl => ?_)
  refine lv_iconst (v := 0) hx hb dX9_duelAt_21 (by decide) ?_
  refine lv_istore (lv' := [(5, .int 0), (4, .int r3), (3, .int r1), (0, .ref (ad 0)), (1, .int p0), (2, .int p1)]) hx hb dX9_duelAt_22 hl (by decide) rfl (fun ls hl => ?_)
  have hL24 : ∀ (n : Nat) (T : St) (x1 : Int32) (x2 : Int32) (x3 : Int32) (x4 : Int32) (x5 : Int32)  (H : Heap) (locs : List Loc) (ls : Array Slot) (r : (St)), m_X9_duelAt_L24 n T x1 x2 x3 x4 x5 = some r → Wd D cy A s (wR ad cy T ++ X) H locs → lv_has ls 10 [(0, .ref (ad 0)), (1, .int x1), (2, .int x2), (3, .int x3), (4, .int x4), (5, .int x5)] → (∀ (H : Heap) (locs : List Loc) (ls : Array Slot), Wd D cy A s (wR ad cy r ++ X) H locs → lv_has ls 10 [(0, .ref (ad 0)), (1, .int x1), (2, .int x2), (3, .int x3), (4, .int x4)] → W p l e (RM 6) s m args below meth c H locs 0 0 Q (F0 m 120 ls [])) → W p l e (RM 6) s m args below meth c H locs 0 0 Q (F0 m 24 ls []) := by
    intro n
    induction n with
    | zero =>
      intro T x1 x2 x3 x4 x5  H locs ls r h
      exact absurd (h.symm.trans (m_X9_duelAt_L24_0 ..)) (by simp)
    | succ n ih =>
      intro T x1 x2 x3 x4 x5  H locs ls r h hW hl kk
      rw [m_X9_duelAt_L24_s] at h
      refine lv_iload hx hb dX9_duelAt_24 (lv_at hl 5 rfl) ?_
      refine lv_iload_n hx hb dX9_duelAt_26 rfl (lv_at hl 1 rfl) ?_
      refine lv_iload_n hx hb dX9_duelAt_27 rfl (lv_at hl 2 rfl) ?_
      refine lv_iadd hx hb dX9_duelAt_28 ?_
      refine lv_icmp_gt (tgt := 120) hx hb dX9_duelAt_29 (by decide) (fun c7 => ?_) (fun c7 => ?_)
      · replace h := ite_t h c7
        obtain rfl := Option.some.inj h
        exact kk _ _ _ hW (lv_sub hl [0, 1, 2, 3, 4] rfl)
      · replace h := ite_f h c7
        refine lv_iconst (v := 0) hx hb dX9_duelAt_32 (by decide) ?_
        refine lv_istore (lv' := [(6, .int 0), (0, .ref (ad 0)), (1, .int x1), (2, .int x2), (3, .int x3), (4, .int x4), (5, .int x5)]) hx hb dX9_duelAt_33 hl (by decide) rfl (fun ls hl => ?_)
        have hL35 : ∀ (n : Nat) (T : St) (x1 : Int32) (x2 : Int32) (x3 : Int32) (x4 : Int32) (x5 : Int32) (x6 : Int32)  (H : Heap) (locs : List Loc) (ls : Array Slot) (r : (St)), m_X9_duelAt_L35 n T x1 x2 x3 x4 x5 x6 = some r → Wd D cy A s (wR ad cy T ++ X) H locs → lv_has ls 10 [(0, .ref (ad 0)), (1, .int x1), (2, .int x2), (3, .int x3), (4, .int x4), (5, .int x5), (6, .int x6)] → (∀ (H : Heap) (locs : List Loc) (ls : Array Slot), Wd D cy A s (wR ad cy r ++ X) H locs → lv_has ls 10 [(0, .ref (ad 0)), (1, .int x1), (2, .int x2), (3, .int x3), (4, .int x4), (5, .int x5)] → W p l e (RM 6) s m args below meth c H locs 0 0 Q (F0 m 114 ls [])) → W p l e (RM 6) s m args below meth c H locs 0 0 Q (F0 m 35 ls []) := by
          intro n
          induction n with
          | zero =>
            intro T x1 x2 x3 x4 x5 x6  H locs ls r h
            exact absurd (h.symm.trans (m_X9_duelAt_L35_0 ..)) (by simp)
          | succ n ih =>
            intro T x1 x2 x3 x4 x5 x6  H locs ls r h hW hl kk
            rw [m_X9_duelAt_L35_s] at h
            refine lv_iload hx hb dX9_duelAt_35 (lv_at hl 6 rfl) ?_
            refine lv_iload_n hx hb dX9_duelAt_37 rfl (lv_at hl 1 rfl) ?_
            refine lv_icmp_gt (tgt := 114) hx hb dX9_duelAt_38 (by decide) (fun c10 => ?_) (fun c10 => ?_)
            · replace h := ite_t h c10
              obtain rfl := Option.some.inj h
              exact kk _ _ _ hW (lv_sub hl [0, 1, 2, 3, 4, 5] rfl)
            · replace h := ite_f h c10
              refine lv_iload hx hb dX9_duelAt_41 (lv_at hl 5 rfl) ?_
              refine lv_iload hx hb dX9_duelAt_43 (lv_at hl 6 rfl) ?_
              refine lv_isub hx hb dX9_duelAt_45 ?_
              refine lv_istore (lv' := [(7, .int (x5 - x6)), (0, .ref (ad 0)), (1, .int x1), (2, .int x2), (3, .int x3), (4, .int x4), (5, .int x5), (6, .int x6)]) hx hb dX9_duelAt_46 hl (by decide) rfl (fun ls hl => ?_)
              refine lv_iload hx hb dX9_duelAt_48 (lv_at hl 0 rfl) ?_
              refine lv_i2l (v := (x5 - x6).toInt64) hx hb dX9_duelAt_50 rfl ?_
              refine lv_lconst (v := 0) hx hb dX9_duelAt_51 (by decide) ?_
              refine lv_iload_n hx hb dX9_duelAt_52 rfl (lv_at hl 3 rfl) ?_
              refine lv_i2l (v := x2.toInt64) hx hb dX9_duelAt_53 rfl ?_
              obtain ⟨r11, hr12, h⟩ := bd_of h
              refine wd_callS1 (As := [.long ((x5 - x6).toInt64), .long 0, .long x2.toInt64]) hC hW (c_X9_in l D cy ad X T ((x5 - x6).toInt64) 0 x2.toInt64 r11 hr12) (va_cwS 3 hts (gu_S w_7_6 w_7_4 w_7_5 w_1_5) rfl rfl rfl hdX9_in ⟨Nat.le_of_ble_eq_true rfl, Nat.le_of_ble_eq_true rfl⟩) rfl hl.1 rfl (Nat.le_of_ble_eq_true rfl) ⟨Nat.zero_le _, Nat.zero_le _⟩ dX9_duelAt_54 (fun H locs hW => ?_)
              refine lv_if_ne (tgt := 63) hx hb dX9_duelAt_57 (by decide) (fun c13 => ?_) (fun c13 => ?_)
              · replace h := ite_f h c13
                refine lv_iload_n hx hb dX9_duelAt_63 rfl (lv_at hl 4 rfl) ?_
                refine lv_istore (lv' := [(8, .int x3), (7, .int (x5 - x6)), (0, .ref (ad 0)), (1, .int x1), (2, .int x2), (3, .int x3), (4, .int x4), (5, .int x5), (6, .int x6)]) hx hb dX9_duelAt_64 hl (by decide) rfl (fun ls hl => ?_)
                have hL66 : ∀ (n : Nat) (T : St) (x1 : Int32) (x2 : Int32) (x3 : Int32) (x4 : Int32) (x5 : Int32) (x6 : Int32) (x7 : Int32) (x8 : Int32)  (H : Heap) (locs : List Loc) (ls : Array Slot) (r : (St)), m_X9_duelAt_L66 n T x1 x2 x3 x4 x5 x6 x7 x8 = some r → Wd D cy A s (wR ad cy T ++ X) H locs → lv_has ls 10 [(0, .ref (ad 0)), (1, .int x1), (2, .int x2), (3, .int x3), (4, .int x4), (5, .int x5), (6, .int x6), (7, .int x7), (8, .int x8)] → (∀ (H : Heap) (locs : List Loc) (ls : Array Slot), Wd D cy A s (wR ad cy r ++ X) H locs → lv_has ls 10 [(0, .ref (ad 0)), (1, .int x1), (2, .int x2), (3, .int x3), (4, .int x4), (5, .int x5), (6, .int x6), (7, .int x7)] → W p l e (RM 6) s m args below meth c H locs 0 0 Q (F0 m 108 ls [])) → W p l e (RM 6) s m args below meth c H locs 0 0 Q (F0 m 66 ls []) := by
                  intro n
                  induction n with
                  | zero =>
                    intro T x1 x2 x3 x4 x5 x6 x7 x8  H locs ls r h
                    exact absurd (h.symm.trans (m_X9_duelAt_L66_0 ..)) (by simp)
                  | succ n ih =>
                    intro T x1 x2 x3 x4 x5 x6 x7 x8  H locs ls r h hW hl kk
                    rw [m_X9_duelAt_L66_s] at h
                    refine lv_iload hx hb dX9_duelAt_66 (lv_at hl 8 rfl) ?_
                    refine lv_bipush (v := 40) hx hb dX9_duelAt_68 (by decide) ?_
                    refine lv_icmp_gt (tgt := 108) hx hb dX9_duelAt_70 (by decide) (fun c16 => ?_) (fun c16 => ?_)
                    · replace h := ite_t h c16
                      obtain rfl := Option.some.inj h
                      exact kk _ _ _ hW (lv_sub hl [0, 1, 2, 3, 4, 5, 6, 7] rfl)
                    · replace h := ite_f h c16
                      refine lv_iload hx hb dX9_duelAt_73 (lv_at hl 4 rfl) ?_
                      refine lv_istore (lv' := [(9, .int x4), (0, .ref (ad 0)), (1, .int x1), (2, .int x2), (3, .int x3), (4, .int x4), (5, .int x5), (6, .int x6), (7, .int x7), (8, .int x8)]) hx hb dX9_duelAt_75 hl (by decide) rfl (fun ls hl => ?_)
                      have hL77 : ∀ (n : Nat) (T : St) (x1 : Int32) (x2 : Int32) (x3 : Int32) (x4 : Int32) (x5 : Int32) (x6 : Int32) (x7 : Int32) (x8 : Int32) (x9 : Int32)  (H : Heap) (locs : List Loc) (ls : Array Slot) (r : (St)), m_X9_duelAt_L77 n T x1 x2 x3 x4 x5 x6 x7 x8 x9 = some r → Wd D cy A s (wR ad cy T ++ X) H locs → lv_has ls 10 [(0, .ref (ad 0)), (1, .int x1), (2, .int x2), (3, .int x3), (4, .int x4), (5, .int x5), (6, .int x6), (7, .int x7), (8, .int x8), (9, .int x9)] → (∀ (H : Heap) (locs : List Loc) (ls : Array Slot), Wd D cy A s (wR ad cy r ++ X) H locs → lv_has ls 10 [(0, .ref (ad 0)), (1, .int x1), (2, .int x2), (3, .int x3), (4, .int x4), (5, .int x5), (6, .int x6), (7, .int x7), (8, .int x8)] → W p l e (RM 6) s m args below meth c H locs 0 0 Q (F0 m 102 ls [])) → W p l e (RM 6) s m args below meth c H locs 0 0 Q (F0 m 77 ls []) := by
                        intro n
                        induction n with
                        | zero =>
                          intro T x1 x2 x3 x4 x5 x6 x7 x8 x9  H locs ls r h
                          exact absurd (h.symm.trans (m_X9_duelAt_L77_0 ..)) (by simp)
                        | succ n ih =>
                          intro T x1 x2 x3 x4 x5 x6 x7 x8 x9  H locs ls r h hW hl kk
                          rw [m_X9_duelAt_L77_s] at h
                          refine lv_iload hx hb dX9_duelAt_77 (lv_at hl 9 rfl) ?_
                          refine lv_bipush (v := 40) hx hb dX9_duelAt_79 (by decide) ?_
                          refine lv_icmp_gt (tgt := 102) hx hb dX9_duelAt_81 (by decide) (fun c19 => ?_) (fun c19 => ?_)
                          · replace h := ite_t h c19
                            obtain rfl := Option.some.inj h
                            exact kk _ _ _ hW (lv_sub hl [0, 1, 2, 3, 4, 5, 6, 7, 8] rfl)
                          · replace h := ite_f h c19
                            refine lv_aload_n hx hb dX9_duelAt_84 rfl (lv_at hl 0 rfl) ?_
                            refine lv_iload hx hb dX9_duelAt_85 (lv_at hl 8 rfl) ?_
                            refine lv_iload hx hb dX9_duelAt_87 (lv_at hl 9 rfl) ?_
                            refine lv_iload hx hb dX9_duelAt_89 (lv_at hl 6 rfl) ?_
                            refine lv_iload hx hb dX9_duelAt_91 (lv_at hl 7 rfl) ?_
                            obtain ⟨r20, hr21, h⟩ := bd_of h
                            refine wd_callV0 (As := [.int x8, .int x9, .int x6, .int x7]) hC hW 0 wR_c0 rfl (c_X9_duelLays l D cy ad X n T x8 x9 x6 x7 r20 hr21) (cwV 4 hts (gu_V w_47_1 w_46_22 w_46_23 w_47_0 w_1_5) rfl rfl rfl hdX9_duelLays ⟨Nat.le_of_ble_eq_true rfl, Nat.le_of_ble_eq_true rfl⟩) rfl hl.1 rfl (Nat.le_of_ble_eq_true rfl) ⟨Nat.zero_le _, Nat.zero_le _⟩ dX9_duelAt_93 (fun H locs hW => ?_)
                            refine lv_iinc (v := x9 + 1) (lv' := [(9, .int (x9 + 1)), (0, .ref (ad 0)), (1, .int x1), (2, .int x2), (3, .int x3), (4, .int x4), (5, .int x5), (6, .int x6), (7, .int x7), (8, .int x8)]) hx hb dX9_duelAt_96 hl (k := 9) rfl rfl (by decide) rfl (fun ls hl => ?_)
                            refine lv_goto (tgt := 77) hx hb dX9_duelAt_99 (by decide) ?_
                            exact ih r20 x1 x2 x3 x4 x5 x6 x7 x8 (x9 + 1) _ _ _ r h hW (lv_sub hl [1, 2, 3, 4, 5, 6, 7, 8, 9, 0] rfl) kk
                      obtain ⟨q17, hq18, h⟩ := bd_of h
                      refine hL77 n T x1 x2 x3 x4 x5 x6 x7 x8 x4  _ _ _ q17 hq18 hW (lv_sub hl [1, 2, 3, 4, 5, 6, 7, 8, 9, 0] rfl) (fun H locs ls hW hl => ?_)
                      refine lv_iinc (v := x8 + 1) (lv' := [(8, .int (x8 + 1)), (0, .ref (ad 0)), (1, .int x1), (2, .int x2), (3, .int x3), (4, .int x4), (5, .int x5), (6, .int x6), (7, .int x7)]) hx hb dX9_duelAt_102 hl (k := 8) rfl rfl (by decide) rfl (fun ls hl => ?_)
                      refine lv_goto (tgt := 66) hx hb dX9_duelAt_105 (by decide) ?_
                      exact ih q17 x1 x2 x3 x4 x5 x6 x7 (x8 + 1) _ _ _ r h hW (lv_sub hl [1, 2, 3, 4, 5, 6, 7, 8, 0] rfl) kk
                obtain ⟨q14, hq15, h⟩ := bd_of h
                refine hL66 n T x1 x2 x3 x4 x5 x6 (x5 - x6) x3  _ _ _ q14 hq15 hW (lv_sub hl [2, 3, 4, 5, 6, 7, 8, 1, 0] rfl) (fun H locs ls hW hl => ?_)
                refine lv_iinc (v := x6 + 1) (lv' := [(6, .int (x6 + 1)), (0, .ref (ad 0)), (1, .int x1), (2, .int x2), (3, .int x3), (4, .int x4), (5, .int x5), (7, .int (x5 - x6))]) hx hb dX9_duelAt_108 hl (k := 6) rfl rfl (by decide) rfl (fun ls hl => ?_)
                refine lv_goto (tgt := 35) hx hb dX9_duelAt_111 (by decide) ?_
                exact ih q14 x1 x2 x3 x4 x5 (x6 + 1) _ _ _ r h hW (lv_sub hl [1, 2, 3, 4, 5, 6, 0] rfl) kk
              · replace h := ite_t h c13
                refine lv_goto (tgt := 108) hx hb dX9_duelAt_60 (by decide) ?_
                refine lv_iinc (v := x6 + 1) (lv' := [(6, .int (x6 + 1)), (7, .int (x5 - x6)), (0, .ref (ad 0)), (1, .int x1), (2, .int x2), (3, .int x3), (4, .int x4), (5, .int x5)]) hx hb dX9_duelAt_108 hl (k := 7) rfl rfl (by decide) rfl (fun ls hl => ?_)
                refine lv_goto (tgt := 35) hx hb dX9_duelAt_111 (by decide) ?_
                exact ih T x1 x2 x3 x4 x5 (x6 + 1) _ _ _ r h hW (lv_sub hl [2, 3, 4, 5, 6, 7, 0] rfl) kk
        obtain ⟨q8, hq9, h⟩ := bd_of h
        refine hL35 n T x1 x2 x3 x4 x5 0  _ _ _ q8 hq9 hW (lv_sub hl [1, 2, 3, 4, 5, 6, 0] rfl) (fun H locs ls hW hl => ?_)
        refine lv_iinc (v := x5 + 1) (lv' := [(5, .int (x5 + 1)), (0, .ref (ad 0)), (1, .int x1), (2, .int x2), (3, .int x3), (4, .int x4)]) hx hb dX9_duelAt_114 hl (k := 5) rfl rfl (by decide) rfl (fun ls hl => ?_)
        refine lv_goto (tgt := 24) hx hb dX9_duelAt_117 (by decide) ?_
        exact ih q8 x1 x2 x3 x4 (x5 + 1) _ _ _ r h hW (lv_sub hl [1, 2, 3, 4, 5, 0] rfl) kk
  obtain ⟨q5, hq6, h⟩ := bd_of h
  refine hL24 n T p0 p1 r1 r3 0  _ _ _ q5 hq6 hW (lv_sub hl [3, 4, 5, 2, 1, 0] rfl) (fun H locs ls hW hl => ?_)
  refine lv_aload_n hx hb dX9_duelAt_120 rfl (lv_at hl 0 rfl) ?_
  refine wd_get hC i9 hW 0 wR_c0 rfl 37 (Nat.le_of_ble_eq_true rfl) f71 rfl rfl dX9_duelAt_121 ?_
  refine lv_iload_n hx hb dX9_duelAt_124 rfl (lv_at hl 3 rfl) ?_
  refine lv_iload hx hb dX9_duelAt_125 (lv_at hl 4 rfl) ?_
  refine lv_iload_n hx hb dX9_duelAt_127 rfl (lv_at hl 1 rfl) ?_
  refine lv_iload_n hx hb dX9_duelAt_128 rfl (lv_at hl 2 rfl) ?_
  obtain ⟨r22, hr23, h⟩ := bd_of h
  refine wd_callS1 (As := [.int r1, .int r3, .int p0, .int p1]) hC hW (c_X9_duelCell l D cy ad X q5 r1 r3 p0 p1 r22 hr23) (va_cwS 4 hts (gu_S w_48_7 w_48_5 w_48_6 w_1_5) rfl rfl rfl hdX9_duelCell ⟨Nat.le_of_ble_eq_true rfl, Nat.le_of_ble_eq_true rfl⟩) rfl hl.1 rfl (Nat.le_of_ble_eq_true rfl) ⟨Nat.zero_le _, Nat.zero_le _⟩ dX9_duelAt_129 (fun H locs hW => ?_)
  obtain ⟨hi24, h⟩ := ck_of h
  refine wd_iald hC hW 21 wR_c21 hi24 dX9_duelAt_132 ?_
  obtain rfl := Option.some.inj h
  exact wd_iret hA hQ hC hr hk hW dX9_duelAt_133
def m_X9_whyNoDuel (T : St) (p0 : Int32) (p1 : Int32) : Option (Int32) :=
  ck 0 63 (if (T.2.1 11 ((0 : Int32).toNatClampNeg)) = 2 then (ck 1 63 (if (T.2.1 11 ((1 : Int32).toNatClampNeg)) = 2 then ((m_X9_isStill T p0).bind (fun r5 => if r5 = 0 then (some (-3)) else ((m_X9_isStill T p1).bind (fun r8 => if r8 = 0 then (some (-3)) else (some 0))))) else (some (-2)))) else (some (-2)))
set_option maxHeartbeats 4000000 in
set_option maxRecDepth 100000 in
theorem c_X9_whyNoDuel (l : Launch) (D : va_G) (cy : Nat → ClassId) (ad : Nat → Nat) (X : va_W) (T : St) (p0 : Int32) (p1 : Int32) (r : (Int32)) (h : m_X9_whyNoDuel T p0 p1 = some r) : CT l yX9_whyNoDuel (wu yX9_whyNoDuel cX9_whyNoDuel 3 (some .int)) 3 D cy [.ref (ad 0), .int p0, .int p1] (wR ad cy T ++ X) (some (.int r)) (wR ad cy T ++ X) := by
  refine CT.mk (cc := cX9_whyNoDuel) (maxL := 3) (ret := (some .int)) (own := RX9) (by decide) rfl rfl (Nat.le_of_ble_eq_true rfl) ?_
  intro p e s m args below meth c ls A Q hA hQ hC hr hk hW hl
  have hx := hC.1
  have hb := hC.2.1
  have hown := hC.2.2.2.1
  have hts := hC.2.2.2.2
  have hl : lv_has ls 3 [(0, .ref (ad 0)), (1, .int p0), (2, .int p1)] := hl
  have f32 := hts _ (wu_in w_5_10)
  have i9 := (fun w h => wu_in (inc_9 w h) : ∀ w ∈ u_ws RX9 TX9 40, w ∈ (wu yX9_whyNoDuel cX9_whyNoDuel 3 (some .int)))
  unfold m_X9_whyNoDuel at h
  refine lv_aload_n hx hb dX9_whyNoDuel_0 rfl (lv_at hl 0 rfl) ?_
  refine wd_get hC i9 hW 0 wR_c0 rfl 11 (Nat.le_of_ble_eq_true rfl) f32 rfl rfl dX9_whyNoDuel_1 ?_
  refine lv_iconst (v := 0) hx hb dX9_whyNoDuel_4 (by decide) ?_
  obtain ⟨hi1, h⟩ := ck_of h
  refine wd_iald hC hW 8 wR_c8 hi1 dX9_whyNoDuel_5 ?_
  refine lv_iconst (v := 2) hx hb dX9_whyNoDuel_6 (by decide) ?_
  refine lv_icmp_ne (tgt := 20) hx hb dX9_whyNoDuel_7 (by decide) (fun c2 => ?_) (fun c2 => ?_)
  · replace h := ite_f h c2
    refine lv_bipush (v := (-2)) hx hb dX9_whyNoDuel_20 (by decide) ?_
    obtain rfl := Option.some.inj h
    exact wd_iret hA hQ hC hr hk hW dX9_whyNoDuel_22
  · replace h := ite_t h c2
    refine lv_aload_n hx hb dX9_whyNoDuel_10 rfl (lv_at hl 0 rfl) ?_
    refine wd_get hC i9 hW 0 wR_c0 rfl 11 (Nat.le_of_ble_eq_true rfl) f32 rfl rfl dX9_whyNoDuel_11 ?_
    refine lv_iconst (v := 1) hx hb dX9_whyNoDuel_14 (by decide) ?_
    obtain ⟨hi3, h⟩ := ck_of h
    refine wd_iald hC hW 8 wR_c8 hi3 dX9_whyNoDuel_15 ?_
    refine lv_iconst (v := 2) hx hb dX9_whyNoDuel_16 (by decide) ?_
    refine lv_icmp_eq (tgt := 23) hx hb dX9_whyNoDuel_17 (by decide) (fun c4 => ?_) (fun c4 => ?_)
    · replace h := ite_t h c4
      refine lv_aload_n hx hb dX9_whyNoDuel_23 rfl (lv_at hl 0 rfl) ?_
      refine lv_iload_n hx hb dX9_whyNoDuel_24 rfl (lv_at hl 1 rfl) ?_
      obtain ⟨r5, hr6, h⟩ := bd_of h
      refine wd_callV1 (As := [.int p0]) hC hW 0 wR_c0 rfl (c_X9_isStill l D cy ad X T p0 r5 hr6) (cwV 1 hts (gu_V w_17_15 w_17_12 w_17_13 w_17_14 w_1_5) rfl rfl rfl hdX9_isStill ⟨Nat.le_of_ble_eq_true rfl, Nat.le_of_ble_eq_true rfl⟩) rfl hl.1 rfl (Nat.le_of_ble_eq_true rfl) ⟨Nat.zero_le _, Nat.zero_le _⟩ dX9_whyNoDuel_25 (fun H locs hW => ?_)
      refine lv_if_eq (tgt := 43) hx hb dX9_whyNoDuel_28 (by decide) (fun c7 => ?_) (fun c7 => ?_)
      · replace h := ite_t h c7
        refine lv_bipush (v := (-3)) hx hb dX9_whyNoDuel_43 (by decide) ?_
        obtain rfl := Option.some.inj h
        exact wd_iret hA hQ hC hr hk hW dX9_whyNoDuel_45
      · replace h := ite_f h c7
        refine lv_aload_n hx hb dX9_whyNoDuel_31 rfl (lv_at hl 0 rfl) ?_
        refine lv_iload_n hx hb dX9_whyNoDuel_32 rfl (lv_at hl 2 rfl) ?_
        obtain ⟨r8, hr9, h⟩ := bd_of h
        refine wd_callV1 (As := [.int p1]) hC hW 0 wR_c0 rfl (c_X9_isStill l D cy ad X T p1 r8 hr9) (cwV 1 hts (gu_V w_17_15 w_17_12 w_17_13 w_17_14 w_1_5) rfl rfl rfl hdX9_isStill ⟨Nat.le_of_ble_eq_true rfl, Nat.le_of_ble_eq_true rfl⟩) rfl hl.1 rfl (Nat.le_of_ble_eq_true rfl) ⟨Nat.zero_le _, Nat.zero_le _⟩ dX9_whyNoDuel_33 (fun H locs hW => ?_)
        refine lv_if_eq (tgt := 43) hx hb dX9_whyNoDuel_36 (by decide) (fun c10 => ?_) (fun c10 => ?_)
        · replace h := ite_t h c10
          refine lv_bipush (v := (-3)) hx hb dX9_whyNoDuel_43 (by decide) ?_
          obtain rfl := Option.some.inj h
          exact wd_iret hA hQ hC hr hk hW dX9_whyNoDuel_45
        · replace h := ite_f h c10
          refine lv_iconst (v := 0) hx hb dX9_whyNoDuel_39 (by decide) ?_
          refine lv_goto (tgt := 45) hx hb dX9_whyNoDuel_40 (by decide) ?_
          obtain rfl := Option.some.inj h
          exact wd_iret hA hQ hC hr hk hW dX9_whyNoDuel_45
    · replace h := ite_f h c4
      refine lv_bipush (v := (-2)) hx hb dX9_whyNoDuel_20 (by decide) ?_
      obtain rfl := Option.some.inj h
      exact wd_iret hA hQ hC hr hk hW dX9_whyNoDuel_22
def m_X9_entersDuel (T : St) (p0 : Int32) (p1 : Int32) : Option (St) :=
  (m_X9_of T (T.1 35) 0).bind (fun r1 => (m_X9_of T (T.1 36) 0).bind (fun r3 => nm (sI T 1 0) (fun T5 => (m_X9_isOneCalled T5 r1 r3).bind (fun r7 => ((if r7 = 0 then (some ((T5.1 36).toInt64)) else (some ((T5.1 35).toInt64)) : Option (Int64))).bind (fun q10 => (m_X9_notes T5 q10).bind (fun r12 => (m_X9_duelCell r12 r1 r3 p0 p1).bind (fun r14 => ck r14 15129 ((m_X9_notes r12 ((r12.2.1 38 r14.toNatClampNeg).toInt64)).bind (fun r17 => some r17)))))))))
set_option maxHeartbeats 4000000 in
set_option maxRecDepth 100000 in
theorem c_X9_entersDuel (l : Launch) (D : va_G) (cy : Nat → ClassId) (ad : Nat → Nat) (X : va_W) (T : St) (p0 : Int32) (p1 : Int32) (r : (St)) (h : m_X9_entersDuel T p0 p1 = some r) : CT l yX9_entersDuel (wu yX9_entersDuel cX9_entersDuel 5 none) 1 D cy [.ref (ad 0), .int p0, .int p1] (wR ad cy T ++ X) (none) (wR ad cy r ++ X) := by
  refine CT.mk (cc := cX9_entersDuel) (maxL := 5) (ret := none) (own := RX9) (by decide) rfl rfl (Nat.le_of_ble_eq_true rfl) ?_
  intro p e s m args below meth c ls A Q hA hQ hC hr hk hW hl
  have hx := hC.1
  have hb := hC.2.1
  have hown := hC.2.2.2.1
  have hts := hC.2.2.2.2
  have hl : lv_has ls 5 [(0, .ref (ad 0)), (1, .int p0), (2, .int p1)] := hl
  have f365 := hts _ (wu_in w_46_12)
  have i9 := (fun w h => wu_in (inc_9 w h) : ∀ w ∈ u_ws RX9 TX9 40, w ∈ (wu yX9_entersDuel cX9_entersDuel 5 none))
  have f368 := hts _ (wu_in w_46_13)
  have f81 := hts _ (wu_in w_19_2)
  have f74 := hts _ (wu_in w_6_0)
  unfold m_X9_entersDuel at h
  refine lv_aload_n hx hb dX9_entersDuel_0 rfl (lv_at hl 0 rfl) ?_
  refine lv_aload_n hx hb dX9_entersDuel_1 rfl (lv_at hl 0 rfl) ?_
  refine wd_get hC i9 hW 0 wR_c0 rfl 35 (Nat.le_of_ble_eq_true rfl) f365 rfl rfl dX9_entersDuel_2 ?_
  refine lv_iconst (v := 0) hx hb dX9_entersDuel_5 (by decide) ?_
  obtain ⟨r1, hr2, h⟩ := bd_of h
  refine wd_callV1 (As := [.int (T.1 35), .int 0]) hC hW 0 wR_c0 rfl (c_X9_of l D cy ad X T (T.1 35) 0 r1 hr2) (cwV 2 hts (gu_V w_12_0 w_11_21 w_11_22 w_11_23 w_1_5) rfl rfl rfl hdX9_of ⟨Nat.le_of_ble_eq_true rfl, Nat.le_of_ble_eq_true rfl⟩) rfl hl.1 rfl (Nat.le_of_ble_eq_true rfl) ⟨Nat.zero_le _, Nat.zero_le _⟩ dX9_entersDuel_6 (fun H locs hW => ?_)
  refine lv_istore_n (lv' := [(3, .int r1), (0, .ref (ad 0)), (1, .int p0), (2, .int p1)]) hx hb dX9_entersDuel_9 rfl hl (by decide) rfl (fun ls hl => ?_)
  refine lv_aload_n hx hb dX9_entersDuel_10 rfl (lv_at hl 1 rfl) ?_
  refine lv_aload_n hx hb dX9_entersDuel_11 rfl (lv_at hl 1 rfl) ?_
  refine wd_get hC i9 hW 0 wR_c0 rfl 36 (Nat.le_of_ble_eq_true rfl) f368 rfl rfl dX9_entersDuel_12 ?_
  refine lv_iconst (v := 0) hx hb dX9_entersDuel_15 (by decide) ?_
  obtain ⟨r3, hr4, h⟩ := bd_of h
  refine wd_callV1 (As := [.int (T.1 36), .int 0]) hC hW 0 wR_c0 rfl (c_X9_of l D cy ad X T (T.1 36) 0 r3 hr4) (cwV 2 hts (gu_V w_12_0 w_11_21 w_11_22 w_11_23 w_1_5) rfl rfl rfl hdX9_of ⟨Nat.le_of_ble_eq_true rfl, Nat.le_of_ble_eq_true rfl⟩) rfl hl.1 rfl (Nat.le_of_ble_eq_true rfl) ⟨Nat.zero_le _, Nat.zero_le _⟩ dX9_entersDuel_16 (fun H locs hW => ?_)
  refine lv_istore (lv' := [(4, .int r3), (3, .int r1), (0, .ref (ad 0)), (1, .int p0), (2, .int p1)]) hx hb dX9_entersDuel_19 hl (by decide) rfl (fun ls hl => ?_)
  refine lv_aload_n hx hb dX9_entersDuel_21 rfl (lv_at hl 2 rfl) ?_
  refine lv_iconst (v := 0) hx hb dX9_entersDuel_22 (by decide) ?_
  refine wd_put hC i9 tyX9_ok nmX9 hW 0 wR_c0 rfl 1 (Nat.le_of_ble_eq_true rfl) f81 rfl rfl rfl rfl (Nat.le_of_ble_eq_true rfl) wR_s0_1 dX9_entersDuel_23 (fun H locs hW => ?_)
  obtain ⟨T5, e6, h⟩ := nm_of h
  replace hW := wq_T e6 hW
  refine lv_aload_n hx hb dX9_entersDuel_26 rfl (lv_at hl 2 rfl) ?_
  refine lv_aload_n hx hb dX9_entersDuel_27 rfl (lv_at hl 2 rfl) ?_
  refine lv_iload_n hx hb dX9_entersDuel_28 rfl (lv_at hl 1 rfl) ?_
  refine lv_iload hx hb dX9_entersDuel_29 (lv_at hl 0 rfl) ?_
  obtain ⟨r7, hr8, h⟩ := bd_of h
  refine wd_callV1 (As := [.int r1, .int r3]) hC hW 0 wR_c0 rfl (c_X9_isOneCalled l D cy ad X T5 r1 r3 r7 hr8) (cwV 2 hts (gu_V w_47_5 w_47_2 w_47_3 w_47_4 w_1_5) rfl rfl rfl hdX9_isOneCalled ⟨Nat.le_of_ble_eq_true rfl, Nat.le_of_ble_eq_true rfl⟩) rfl hl.1 rfl (Nat.le_of_ble_eq_true rfl) ⟨Nat.zero_le _, Nat.zero_le _⟩ dX9_entersDuel_31 (fun H locs hW => ?_)
  obtain ⟨q10, hq11, h⟩ := bd_of h
  have hJ50 : ∀ (H : Heap) (locs : List Loc) (ls : Array Slot), Wd D cy A s (wR ad cy T5 ++ X) H locs → lv_has ls 5 [(4, .int r3), (3, .int r1), (0, .ref (ad 0)), (1, .int p0), (2, .int p1)] → W p l e (RM 1) s m args below meth c H locs 0 0 Q (F0 m 50 ls [.long q10, .ref (ad 0)]) := by
    intro H locs ls hW hl
    obtain ⟨r12, hr13, h⟩ := bd_of h
    refine wd_callV0 (As := [.long q10]) hC hW 0 wR_c0 rfl (c_X9_notes l D cy ad X T5 q10 r12 hr13) (cwV 1 hts (gu_V w_19_14 w_19_11 w_19_12 w_19_13 w_1_5) rfl rfl rfl hdX9_notes ⟨Nat.le_of_ble_eq_true rfl, Nat.le_of_ble_eq_true rfl⟩) rfl hl.1 rfl (Nat.le_of_ble_eq_true rfl) ⟨Nat.zero_le _, Nat.zero_le _⟩ dX9_entersDuel_50 (fun H locs hW => ?_)
    refine lv_aload_n hx hb dX9_entersDuel_53 rfl (lv_at hl 2 rfl) ?_
    refine lv_aload_n hx hb dX9_entersDuel_54 rfl (lv_at hl 2 rfl) ?_
    refine wd_get hC i9 hW 0 wR_c0 rfl 38 (Nat.le_of_ble_eq_true rfl) f74 rfl rfl dX9_entersDuel_55 ?_
    refine lv_iload_n hx hb dX9_entersDuel_58 rfl (lv_at hl 1 rfl) ?_
    refine lv_iload hx hb dX9_entersDuel_59 (lv_at hl 0 rfl) ?_
    refine lv_iload_n hx hb dX9_entersDuel_61 rfl (lv_at hl 3 rfl) ?_
    refine lv_iload_n hx hb dX9_entersDuel_62 rfl (lv_at hl 4 rfl) ?_
    obtain ⟨r14, hr15, h⟩ := bd_of h
    refine wd_callS1 (As := [.int r1, .int r3, .int p0, .int p1]) hC hW (c_X9_duelCell l D cy ad X r12 r1 r3 p0 p1 r14 hr15) (va_cwS 4 hts (gu_S w_48_7 w_48_5 w_48_6 w_1_5) rfl rfl rfl hdX9_duelCell ⟨Nat.le_of_ble_eq_true rfl, Nat.le_of_ble_eq_true rfl⟩) rfl hl.1 rfl (Nat.le_of_ble_eq_true rfl) ⟨Nat.zero_le _, Nat.zero_le _⟩ dX9_entersDuel_63 (fun H locs hW => ?_)
    obtain ⟨hi16, h⟩ := ck_of h
    refine wd_iald hC hW 22 wR_c22 hi16 dX9_entersDuel_66 ?_
    refine lv_i2l (v := (r12.2.1 38 r14.toNatClampNeg).toInt64) hx hb dX9_entersDuel_67 rfl ?_
    obtain ⟨r17, hr18, h⟩ := bd_of h
    refine wd_callV0 (As := [.long ((r12.2.1 38 r14.toNatClampNeg).toInt64)]) hC hW 0 wR_c0 rfl (c_X9_notes l D cy ad X r12 ((r12.2.1 38 r14.toNatClampNeg).toInt64) r17 hr18) (cwV 1 hts (gu_V w_19_14 w_19_11 w_19_12 w_19_13 w_1_5) rfl rfl rfl hdX9_notes ⟨Nat.le_of_ble_eq_true rfl, Nat.le_of_ble_eq_true rfl⟩) rfl hl.1 rfl (Nat.le_of_ble_eq_true rfl) ⟨Nat.zero_le _, Nat.zero_le _⟩ dX9_entersDuel_68 (fun H locs hW => ?_)
    obtain rfl := Option.some.inj h
    exact wd_vret hA hQ hC hr hk hW dX9_entersDuel_71
  replace h := hq11
  refine lv_if_eq (tgt := 45) hx hb dX9_entersDuel_34 (by decide) (fun c9 => ?_) (fun c9 => ?_)
  · replace h := ite_t h c9
    refine lv_aload_n hx hb dX9_entersDuel_45 rfl (lv_at hl 2 rfl) ?_
    refine wd_get hC i9 hW 0 wR_c0 rfl 36 (Nat.le_of_ble_eq_true rfl) f368 rfl rfl dX9_entersDuel_46 ?_
    refine lv_i2l (v := (T5.1 36).toInt64) hx hb dX9_entersDuel_49 rfl ?_
    obtain rfl := Option.some.inj h
    exact hJ50 _ _ _ hW (lv_sub hl [0, 1, 2, 3, 4] rfl)
  · replace h := ite_f h c9
    refine lv_aload_n hx hb dX9_entersDuel_37 rfl (lv_at hl 2 rfl) ?_
    refine wd_get hC i9 hW 0 wR_c0 rfl 35 (Nat.le_of_ble_eq_true rfl) f365 rfl rfl dX9_entersDuel_38 ?_
    refine lv_i2l (v := (T5.1 35).toInt64) hx hb dX9_entersDuel_41 rfl ?_
    refine lv_goto (tgt := 50) hx hb dX9_entersDuel_42 (by decide) ?_
    obtain rfl := Option.some.inj h
    exact hJ50 _ _ _ hW (lv_sub hl [0, 1, 2, 3, 4] rfl)
def m_X9_duel (n : Nat) (T : St) (p0 : Int32) (p1 : Int32) : Option (Int32 × St) :=
  nm (sI T 0 0) (fun T1 => (m_X9_isLifter T1 p0).bind (fun r3 => if r3 = 0 then (some ((-1), T1)) else ((m_X9_isLifter T1 p1).bind (fun r6 => if r6 = 0 then (some ((-1), T1)) else (if p0 = p1 then (some ((-1), T1)) else ((m_X9_whyNoDuel T1 p0 p1).bind (fun r10 => if r10 = 0 then (nm (sI T1 35 p0) (fun T13 => nm (sI T13 36 p1) (fun T15 => (m_X9_duelAt n T15 0 0).bind (fun r17 => (m_X9_of r17.2 p0 5).bind (fun r19 => (m_X9_of r17.2 p1 5).bind (fun r21 => (m_X9_duelAt n r17.2 r19 r21).bind (fun r23 => (m_X9_of r23.2 p0 5).bind (fun r25 => (m_X9_of r23.2 p1 5).bind (fun r27 => (m_X9_entersDuel r23.2 r25 r27).bind (fun r29 => (m_X9_notes r29 r17.1.toInt64).bind (fun r31 => some (r23.1, r31)))))))))))) else (some (r10, T1)))))))))
set_option maxHeartbeats 4000000 in
set_option maxRecDepth 100000 in
theorem c_X9_duel (l : Launch) (D : va_G) (cy : Nat → ClassId) (ad : Nat → Nat) (X : va_W) (n : Nat) (T : St) (p0 : Int32) (p1 : Int32) (r : (Int32 × St)) (h : m_X9_duel n T p0 p1 = some r) : CT l yX9_duel (wu yX9_duel cX9_duel 6 (some .int)) 7 D cy [.ref (ad 0), .int p0, .int p1] (wR ad cy T ++ X) (some (.int r.1)) (wR ad cy r.2 ++ X) := by
  refine CT.mk (cc := cX9_duel) (maxL := 6) (ret := (some .int)) (own := RX9) (by decide) rfl rfl (Nat.le_of_ble_eq_true rfl) ?_
  intro p e s m args below meth c ls A Q hA hQ hC hr hk hW hl
  have hx := hC.1
  have hb := hC.2.1
  have hown := hC.2.2.2.1
  have hts := hC.2.2.2.2
  have hl : lv_has ls 6 [(0, .ref (ad 0)), (1, .int p0), (2, .int p1)] := hl
  have f77 := hts _ (wu_in w_6_14)
  have i9 := (fun w h => wu_in (inc_9 w h) : ∀ w ∈ u_ws RX9 TX9 40, w ∈ (wu yX9_duel cX9_duel 6 (some .int)))
  have f365 := hts _ (wu_in w_46_12)
  have f368 := hts _ (wu_in w_46_13)
  unfold m_X9_duel at h
  refine lv_aload_n hx hb dX9_duel_0 rfl (lv_at hl 0 rfl) ?_
  refine lv_iconst (v := 0) hx hb dX9_duel_1 (by decide) ?_
  refine wd_put hC i9 tyX9_ok nmX9 hW 0 wR_c0 rfl 0 (Nat.le_of_ble_eq_true rfl) f77 rfl rfl rfl rfl (Nat.le_of_ble_eq_true rfl) wR_s0_0 dX9_duel_2 (fun H locs hW => ?_)
  obtain ⟨T1, e2, h⟩ := nm_of h
  replace hW := wq_T e2 hW
  refine lv_aload_n hx hb dX9_duel_5 rfl (lv_at hl 0 rfl) ?_
  refine lv_iload_n hx hb dX9_duel_6 rfl (lv_at hl 1 rfl) ?_
  obtain ⟨r3, hr4, h⟩ := bd_of h
  refine wd_callV1 (As := [.int p0]) hC hW 0 wR_c0 rfl (c_X9_isLifter l D cy ad X T1 p0 r3 hr4) (cwV 1 hts (gu_V w_14_5 w_14_2 w_14_3 w_14_4 w_1_5) rfl rfl rfl hdX9_isLifter ⟨Nat.le_of_ble_eq_true rfl, Nat.le_of_ble_eq_true rfl⟩) rfl hl.1 rfl (Nat.le_of_ble_eq_true rfl) ⟨Nat.zero_le _, Nat.zero_le _⟩ dX9_duel_7 (fun H locs hW => ?_)
  refine lv_if_eq (tgt := 26) hx hb dX9_duel_10 (by decide) (fun c5 => ?_) (fun c5 => ?_)
  · replace h := ite_t h c5
    refine lv_iconst (v := (-1)) hx hb dX9_duel_26 (by decide) ?_
    obtain rfl := Option.some.inj h
    exact wd_iret hA hQ hC hr hk hW dX9_duel_27
  · replace h := ite_f h c5
    refine lv_aload_n hx hb dX9_duel_13 rfl (lv_at hl 0 rfl) ?_
    refine lv_iload_n hx hb dX9_duel_14 rfl (lv_at hl 2 rfl) ?_
    obtain ⟨r6, hr7, h⟩ := bd_of h
    refine wd_callV1 (As := [.int p1]) hC hW 0 wR_c0 rfl (c_X9_isLifter l D cy ad X T1 p1 r6 hr7) (cwV 1 hts (gu_V w_14_5 w_14_2 w_14_3 w_14_4 w_1_5) rfl rfl rfl hdX9_isLifter ⟨Nat.le_of_ble_eq_true rfl, Nat.le_of_ble_eq_true rfl⟩) rfl hl.1 rfl (Nat.le_of_ble_eq_true rfl) ⟨Nat.zero_le _, Nat.zero_le _⟩ dX9_duel_15 (fun H locs hW => ?_)
    refine lv_if_eq (tgt := 26) hx hb dX9_duel_18 (by decide) (fun c8 => ?_) (fun c8 => ?_)
    · replace h := ite_t h c8
      refine lv_iconst (v := (-1)) hx hb dX9_duel_26 (by decide) ?_
      obtain rfl := Option.some.inj h
      exact wd_iret hA hQ hC hr hk hW dX9_duel_27
    · replace h := ite_f h c8
      refine lv_iload_n hx hb dX9_duel_21 rfl (lv_at hl 1 rfl) ?_
      refine lv_iload_n hx hb dX9_duel_22 rfl (lv_at hl 2 rfl) ?_
      refine lv_icmp_ne (tgt := 28) hx hb dX9_duel_23 (by decide) (fun c9 => ?_) (fun c9 => ?_)
      · replace h := ite_f h c9
        refine lv_aload_n hx hb dX9_duel_28 rfl (lv_at hl 0 rfl) ?_
        refine lv_iload_n hx hb dX9_duel_29 rfl (lv_at hl 1 rfl) ?_
        refine lv_iload_n hx hb dX9_duel_30 rfl (lv_at hl 2 rfl) ?_
        obtain ⟨r10, hr11, h⟩ := bd_of h
        refine wd_callV1 (As := [.int p0, .int p1]) hC hW 0 wR_c0 rfl (c_X9_whyNoDuel l D cy ad X T1 p0 p1 r10 hr11) (cwV 2 hts (gu_V w_46_17 w_46_14 w_46_15 w_46_16 w_1_5) rfl rfl rfl hdX9_whyNoDuel ⟨Nat.le_of_ble_eq_true rfl, Nat.le_of_ble_eq_true rfl⟩) rfl hl.1 rfl (Nat.le_of_ble_eq_true rfl) ⟨Nat.zero_le _, Nat.zero_le _⟩ dX9_duel_31 (fun H locs hW => ?_)
        refine lv_istore_n (lv' := [(3, .int r10), (0, .ref (ad 0)), (1, .int p0), (2, .int p1)]) hx hb dX9_duel_34 rfl hl (by decide) rfl (fun ls hl => ?_)
        refine lv_iload_n hx hb dX9_duel_35 rfl (lv_at hl 0 rfl) ?_
        refine lv_if_eq (tgt := 41) hx hb dX9_duel_36 (by decide) (fun c12 => ?_) (fun c12 => ?_)
        · replace h := ite_t h c12
          refine lv_aload_n hx hb dX9_duel_41 rfl (lv_at hl 1 rfl) ?_
          refine lv_iload_n hx hb dX9_duel_42 rfl (lv_at hl 2 rfl) ?_
          refine wd_put hC i9 tyX9_ok nmX9 hW 0 wR_c0 rfl 35 (Nat.le_of_ble_eq_true rfl) f365 rfl rfl rfl rfl (Nat.le_of_ble_eq_true rfl) wR_s0_35 dX9_duel_43 (fun H locs hW => ?_)
          obtain ⟨T13, e14, h⟩ := nm_of h
          replace hW := wq_T e14 hW
          refine lv_aload_n hx hb dX9_duel_46 rfl (lv_at hl 1 rfl) ?_
          refine lv_iload_n hx hb dX9_duel_47 rfl (lv_at hl 3 rfl) ?_
          refine wd_put hC i9 tyX9_ok nmX9 hW 0 wR_c0 rfl 36 (Nat.le_of_ble_eq_true rfl) f368 rfl rfl rfl rfl (Nat.le_of_ble_eq_true rfl) wR_s0_36 dX9_duel_48 (fun H locs hW => ?_)
          obtain ⟨T15, e16, h⟩ := nm_of h
          replace hW := wq_T e16 hW
          refine lv_aload_n hx hb dX9_duel_51 rfl (lv_at hl 1 rfl) ?_
          refine lv_iconst (v := 0) hx hb dX9_duel_52 (by decide) ?_
          refine lv_iconst (v := 0) hx hb dX9_duel_53 (by decide) ?_
          obtain ⟨r17, hr18, h⟩ := bd_of h
          refine wd_callV1 (As := [.int 0, .int 0]) hC hW 0 wR_c0 rfl (c_X9_duelAt l D cy ad X n T15 0 0 r17 hr18) (cwV 2 hts (gu_V w_46_21 w_46_18 w_46_19 w_46_20 w_1_5) rfl rfl rfl hdX9_duelAt ⟨Nat.le_of_ble_eq_true rfl, Nat.le_of_ble_eq_true rfl⟩) rfl hl.1 rfl (Nat.le_of_ble_eq_true rfl) ⟨Nat.zero_le _, Nat.zero_le _⟩ dX9_duel_54 (fun H locs hW => ?_)
          refine lv_istore (lv' := [(4, .int r17.1), (3, .int r10), (0, .ref (ad 0)), (1, .int p0), (2, .int p1)]) hx hb dX9_duel_57 hl (by decide) rfl (fun ls hl => ?_)
          refine lv_aload_n hx hb dX9_duel_59 rfl (lv_at hl 2 rfl) ?_
          refine lv_aload_n hx hb dX9_duel_60 rfl (lv_at hl 2 rfl) ?_
          refine lv_iload_n hx hb dX9_duel_61 rfl (lv_at hl 3 rfl) ?_
          refine lv_iconst (v := 5) hx hb dX9_duel_62 (by decide) ?_
          obtain ⟨r19, hr20, h⟩ := bd_of h
          refine wd_callV1 (As := [.int p0, .int 5]) hC hW 0 wR_c0 rfl (c_X9_of l D cy ad X r17.2 p0 5 r19 hr20) (cwV 2 hts (gu_V w_12_0 w_11_21 w_11_22 w_11_23 w_1_5) rfl rfl rfl hdX9_of ⟨Nat.le_of_ble_eq_true rfl, Nat.le_of_ble_eq_true rfl⟩) rfl hl.1 rfl (Nat.le_of_ble_eq_true rfl) ⟨Nat.zero_le _, Nat.zero_le _⟩ dX9_duel_63 (fun H locs hW => ?_)
          refine lv_aload_n hx hb dX9_duel_66 rfl (lv_at hl 2 rfl) ?_
          refine lv_iload_n hx hb dX9_duel_67 rfl (lv_at hl 4 rfl) ?_
          refine lv_iconst (v := 5) hx hb dX9_duel_68 (by decide) ?_
          obtain ⟨r21, hr22, h⟩ := bd_of h
          refine wd_callV1 (As := [.int p1, .int 5]) hC hW 0 wR_c0 rfl (c_X9_of l D cy ad X r17.2 p1 5 r21 hr22) (cwV 2 hts (gu_V w_12_0 w_11_21 w_11_22 w_11_23 w_1_5) rfl rfl rfl hdX9_of ⟨Nat.le_of_ble_eq_true rfl, Nat.le_of_ble_eq_true rfl⟩) rfl hl.1 rfl (Nat.le_of_ble_eq_true rfl) ⟨Nat.zero_le _, Nat.zero_le _⟩ dX9_duel_69 (fun H locs hW => ?_)
          obtain ⟨r23, hr24, h⟩ := bd_of h
          refine wd_callV1 (As := [.int r19, .int r21]) hC hW 0 wR_c0 rfl (c_X9_duelAt l D cy ad X n r17.2 r19 r21 r23 hr24) (cwV 2 hts (gu_V w_46_21 w_46_18 w_46_19 w_46_20 w_1_5) rfl rfl rfl hdX9_duelAt ⟨Nat.le_of_ble_eq_true rfl, Nat.le_of_ble_eq_true rfl⟩) rfl hl.1 rfl (Nat.le_of_ble_eq_true rfl) ⟨Nat.zero_le _, Nat.zero_le _⟩ dX9_duel_72 (fun H locs hW => ?_)
          refine lv_istore (lv' := [(5, .int r23.1), (4, .int r17.1), (3, .int r10), (0, .ref (ad 0)), (1, .int p0), (2, .int p1)]) hx hb dX9_duel_75 hl (by decide) rfl (fun ls hl => ?_)
          refine lv_aload_n hx hb dX9_duel_77 rfl (lv_at hl 3 rfl) ?_
          refine lv_aload_n hx hb dX9_duel_78 rfl (lv_at hl 3 rfl) ?_
          refine lv_iload_n hx hb dX9_duel_79 rfl (lv_at hl 4 rfl) ?_
          refine lv_iconst (v := 5) hx hb dX9_duel_80 (by decide) ?_
          obtain ⟨r25, hr26, h⟩ := bd_of h
          refine wd_callV1 (As := [.int p0, .int 5]) hC hW 0 wR_c0 rfl (c_X9_of l D cy ad X r23.2 p0 5 r25 hr26) (cwV 2 hts (gu_V w_12_0 w_11_21 w_11_22 w_11_23 w_1_5) rfl rfl rfl hdX9_of ⟨Nat.le_of_ble_eq_true rfl, Nat.le_of_ble_eq_true rfl⟩) rfl hl.1 rfl (Nat.le_of_ble_eq_true rfl) ⟨Nat.zero_le _, Nat.zero_le _⟩ dX9_duel_81 (fun H locs hW => ?_)
          refine lv_aload_n hx hb dX9_duel_84 rfl (lv_at hl 3 rfl) ?_
          refine lv_iload_n hx hb dX9_duel_85 rfl (lv_at hl 5 rfl) ?_
          refine lv_iconst (v := 5) hx hb dX9_duel_86 (by decide) ?_
          obtain ⟨r27, hr28, h⟩ := bd_of h
          refine wd_callV1 (As := [.int p1, .int 5]) hC hW 0 wR_c0 rfl (c_X9_of l D cy ad X r23.2 p1 5 r27 hr28) (cwV 2 hts (gu_V w_12_0 w_11_21 w_11_22 w_11_23 w_1_5) rfl rfl rfl hdX9_of ⟨Nat.le_of_ble_eq_true rfl, Nat.le_of_ble_eq_true rfl⟩) rfl hl.1 rfl (Nat.le_of_ble_eq_true rfl) ⟨Nat.zero_le _, Nat.zero_le _⟩ dX9_duel_87 (fun H locs hW => ?_)
          obtain ⟨r29, hr30, h⟩ := bd_of h
          refine wd_callV0 (As := [.int r25, .int r27]) hC hW 0 wR_c0 rfl (c_X9_entersDuel l D cy ad X r23.2 r25 r27 r29 hr30) (cwV 2 hts (gu_V w_48_11 w_48_8 w_48_9 w_48_10 w_1_5) rfl rfl rfl hdX9_entersDuel ⟨Nat.le_of_ble_eq_true rfl, Nat.le_of_ble_eq_true rfl⟩) rfl hl.1 rfl (Nat.le_of_ble_eq_true rfl) ⟨Nat.zero_le _, Nat.zero_le _⟩ dX9_duel_90 (fun H locs hW => ?_)
          refine lv_aload_n hx hb dX9_duel_93 rfl (lv_at hl 3 rfl) ?_
          refine lv_iload hx hb dX9_duel_94 (lv_at hl 1 rfl) ?_
          refine lv_i2l (v := r17.1.toInt64) hx hb dX9_duel_96 rfl ?_
          obtain ⟨r31, hr32, h⟩ := bd_of h
          refine wd_callV0 (As := [.long r17.1.toInt64]) hC hW 0 wR_c0 rfl (c_X9_notes l D cy ad X r29 r17.1.toInt64 r31 hr32) (cwV 1 hts (gu_V w_19_14 w_19_11 w_19_12 w_19_13 w_1_5) rfl rfl rfl hdX9_notes ⟨Nat.le_of_ble_eq_true rfl, Nat.le_of_ble_eq_true rfl⟩) rfl hl.1 rfl (Nat.le_of_ble_eq_true rfl) ⟨Nat.zero_le _, Nat.zero_le _⟩ dX9_duel_97 (fun H locs hW => ?_)
          refine lv_iload hx hb dX9_duel_100 (lv_at hl 0 rfl) ?_
          obtain rfl := Option.some.inj h
          exact wd_iret hA hQ hC hr hk hW dX9_duel_102
        · replace h := ite_f h c12
          refine lv_iload_n hx hb dX9_duel_39 rfl (lv_at hl 0 rfl) ?_
          obtain rfl := Option.some.inj h
          exact wd_iret hA hQ hC hr hk hW dX9_duel_40
      · replace h := ite_t h c9
        refine lv_iconst (v := (-1)) hx hb dX9_duel_26 (by decide) ?_
        obtain rfl := Option.some.inj h
        exact wd_iret hA hQ hC hr hk hW dX9_duel_27
def m_X9_bluff (n : Nat) (T : St) (p0 : Int32) (p1 : Int32) (p2 : Int32) (p3 : Int32) : Option (Int32 × St) :=
  nm (sI T 0 0) (fun T1 => (m_X9_isLifter T1 p0).bind (fun r3 => if r3 = 0 then (some ((-1), T1)) else ((m_X9_isLifter T1 p1).bind (fun r6 => if r6 = 0 then (some ((-1), T1)) else (if p0 = p1 then (some ((-1), T1)) else ((m_X9_in T1 p2.toInt64 0 2).bind (fun r10 => if r10 = 0 then (some ((-1), T1)) else ((m_X9_in T1 p3.toInt64 0 2).bind (fun r13 => if r13 = 0 then (some ((-1), T1)) else ((m_X9_whyNoDuel T1 p0 p1).bind (fun r16 => if r16 = 0 then (nm (sI T1 35 p0) (fun T19 => nm (sI T19 36 p1) (fun T21 => (m_X9_duelAt n T21 p2 p3).bind (fun r23 => (m_X9_entersDuel r23.2 p2 p3).bind (fun r25 => some (r23.1, r25)))))) else (some (r16, T1)))))))))))))
set_option maxHeartbeats 4000000 in
set_option maxRecDepth 100000 in
theorem c_X9_bluff (l : Launch) (D : va_G) (cy : Nat → ClassId) (ad : Nat → Nat) (X : va_W) (n : Nat) (T : St) (p0 : Int32) (p1 : Int32) (p2 : Int32) (p3 : Int32) (r : (Int32 × St)) (h : m_X9_bluff n T p0 p1 p2 p3 = some r) : CT l yX9_bluff (wu yX9_bluff cX9_bluff 7 (some .int)) 7 D cy [.ref (ad 0), .int p0, .int p1, .int p2, .int p3] (wR ad cy T ++ X) (some (.int r.1)) (wR ad cy r.2 ++ X) := by
  refine CT.mk (cc := cX9_bluff) (maxL := 7) (ret := (some .int)) (own := RX9) (by decide) rfl rfl (Nat.le_of_ble_eq_true rfl) ?_
  intro p e s m args below meth c ls A Q hA hQ hC hr hk hW hl
  have hx := hC.1
  have hb := hC.2.1
  have hown := hC.2.2.2.1
  have hts := hC.2.2.2.2
  have hl : lv_has ls 7 [(0, .ref (ad 0)), (1, .int p0), (2, .int p1), (3, .int p2), (4, .int p3)] := hl
  have f77 := hts _ (wu_in w_6_14)
  have i9 := (fun w h => wu_in (inc_9 w h) : ∀ w ∈ u_ws RX9 TX9 40, w ∈ (wu yX9_bluff cX9_bluff 7 (some .int)))
  have k91 := hts _ (wu_in w_13_23)
  have f365 := hts _ (wu_in w_46_12)
  have f368 := hts _ (wu_in w_46_13)
  unfold m_X9_bluff at h
  refine lv_aload_n hx hb dX9_bluff_0 rfl (lv_at hl 0 rfl) ?_
  refine lv_iconst (v := 0) hx hb dX9_bluff_1 (by decide) ?_
  refine wd_put hC i9 tyX9_ok nmX9 hW 0 wR_c0 rfl 0 (Nat.le_of_ble_eq_true rfl) f77 rfl rfl rfl rfl (Nat.le_of_ble_eq_true rfl) wR_s0_0 dX9_bluff_2 (fun H locs hW => ?_)
  obtain ⟨T1, e2, h⟩ := nm_of h
  replace hW := wq_T e2 hW
  refine lv_aload_n hx hb dX9_bluff_5 rfl (lv_at hl 0 rfl) ?_
  refine lv_iload_n hx hb dX9_bluff_6 rfl (lv_at hl 1 rfl) ?_
  obtain ⟨r3, hr4, h⟩ := bd_of h
  refine wd_callV1 (As := [.int p0]) hC hW 0 wR_c0 rfl (c_X9_isLifter l D cy ad X T1 p0 r3 hr4) (cwV 1 hts (gu_V w_14_5 w_14_2 w_14_3 w_14_4 w_1_5) rfl rfl rfl hdX9_isLifter ⟨Nat.le_of_ble_eq_true rfl, Nat.le_of_ble_eq_true rfl⟩) rfl hl.1 rfl (Nat.le_of_ble_eq_true rfl) ⟨Nat.zero_le _, Nat.zero_le _⟩ dX9_bluff_7 (fun H locs hW => ?_)
  refine lv_if_eq (tgt := 51) hx hb dX9_bluff_10 (by decide) (fun c5 => ?_) (fun c5 => ?_)
  · replace h := ite_t h c5
    refine lv_iconst (v := (-1)) hx hb dX9_bluff_51 (by decide) ?_
    obtain rfl := Option.some.inj h
    exact wd_iret hA hQ hC hr hk hW dX9_bluff_52
  · replace h := ite_f h c5
    refine lv_aload_n hx hb dX9_bluff_13 rfl (lv_at hl 0 rfl) ?_
    refine lv_iload_n hx hb dX9_bluff_14 rfl (lv_at hl 2 rfl) ?_
    obtain ⟨r6, hr7, h⟩ := bd_of h
    refine wd_callV1 (As := [.int p1]) hC hW 0 wR_c0 rfl (c_X9_isLifter l D cy ad X T1 p1 r6 hr7) (cwV 1 hts (gu_V w_14_5 w_14_2 w_14_3 w_14_4 w_1_5) rfl rfl rfl hdX9_isLifter ⟨Nat.le_of_ble_eq_true rfl, Nat.le_of_ble_eq_true rfl⟩) rfl hl.1 rfl (Nat.le_of_ble_eq_true rfl) ⟨Nat.zero_le _, Nat.zero_le _⟩ dX9_bluff_15 (fun H locs hW => ?_)
    refine lv_if_eq (tgt := 51) hx hb dX9_bluff_18 (by decide) (fun c8 => ?_) (fun c8 => ?_)
    · replace h := ite_t h c8
      refine lv_iconst (v := (-1)) hx hb dX9_bluff_51 (by decide) ?_
      obtain rfl := Option.some.inj h
      exact wd_iret hA hQ hC hr hk hW dX9_bluff_52
    · replace h := ite_f h c8
      refine lv_iload_n hx hb dX9_bluff_21 rfl (lv_at hl 1 rfl) ?_
      refine lv_iload_n hx hb dX9_bluff_22 rfl (lv_at hl 2 rfl) ?_
      refine lv_icmp_eq (tgt := 51) hx hb dX9_bluff_23 (by decide) (fun c9 => ?_) (fun c9 => ?_)
      · replace h := ite_t h c9
        refine lv_iconst (v := (-1)) hx hb dX9_bluff_51 (by decide) ?_
        obtain rfl := Option.some.inj h
        exact wd_iret hA hQ hC hr hk hW dX9_bluff_52
      · replace h := ite_f h c9
        refine lv_iload_n hx hb dX9_bluff_26 rfl (lv_at hl 3 rfl) ?_
        refine lv_i2l (v := p2.toInt64) hx hb dX9_bluff_27 rfl ?_
        refine lv_lconst (v := 0) hx hb dX9_bluff_28 (by decide) ?_
        refine lv_ldc2 hx hb hown k91 dX9_bluff_29 ?_
        obtain ⟨r10, hr11, h⟩ := bd_of h
        refine wd_callS1 (As := [.long p2.toInt64, .long 0, .long 2]) hC hW (c_X9_in l D cy ad X T1 p2.toInt64 0 2 r10 hr11) (va_cwS 3 hts (gu_S w_7_6 w_7_4 w_7_5 w_1_5) rfl rfl rfl hdX9_in ⟨Nat.le_of_ble_eq_true rfl, Nat.le_of_ble_eq_true rfl⟩) rfl hl.1 rfl (Nat.le_of_ble_eq_true rfl) ⟨Nat.zero_le _, Nat.zero_le _⟩ dX9_bluff_32 (fun H locs hW => ?_)
        refine lv_if_eq (tgt := 51) hx hb dX9_bluff_35 (by decide) (fun c12 => ?_) (fun c12 => ?_)
        · replace h := ite_t h c12
          refine lv_iconst (v := (-1)) hx hb dX9_bluff_51 (by decide) ?_
          obtain rfl := Option.some.inj h
          exact wd_iret hA hQ hC hr hk hW dX9_bluff_52
        · replace h := ite_f h c12
          refine lv_iload hx hb dX9_bluff_38 (lv_at hl 4 rfl) ?_
          refine lv_i2l (v := p3.toInt64) hx hb dX9_bluff_40 rfl ?_
          refine lv_lconst (v := 0) hx hb dX9_bluff_41 (by decide) ?_
          refine lv_ldc2 hx hb hown k91 dX9_bluff_42 ?_
          obtain ⟨r13, hr14, h⟩ := bd_of h
          refine wd_callS1 (As := [.long p3.toInt64, .long 0, .long 2]) hC hW (c_X9_in l D cy ad X T1 p3.toInt64 0 2 r13 hr14) (va_cwS 3 hts (gu_S w_7_6 w_7_4 w_7_5 w_1_5) rfl rfl rfl hdX9_in ⟨Nat.le_of_ble_eq_true rfl, Nat.le_of_ble_eq_true rfl⟩) rfl hl.1 rfl (Nat.le_of_ble_eq_true rfl) ⟨Nat.zero_le _, Nat.zero_le _⟩ dX9_bluff_45 (fun H locs hW => ?_)
          refine lv_if_ne (tgt := 53) hx hb dX9_bluff_48 (by decide) (fun c15 => ?_) (fun c15 => ?_)
          · replace h := ite_f h c15
            refine lv_aload_n hx hb dX9_bluff_53 rfl (lv_at hl 0 rfl) ?_
            refine lv_iload_n hx hb dX9_bluff_54 rfl (lv_at hl 1 rfl) ?_
            refine lv_iload_n hx hb dX9_bluff_55 rfl (lv_at hl 2 rfl) ?_
            obtain ⟨r16, hr17, h⟩ := bd_of h
            refine wd_callV1 (As := [.int p0, .int p1]) hC hW 0 wR_c0 rfl (c_X9_whyNoDuel l D cy ad X T1 p0 p1 r16 hr17) (cwV 2 hts (gu_V w_46_17 w_46_14 w_46_15 w_46_16 w_1_5) rfl rfl rfl hdX9_whyNoDuel ⟨Nat.le_of_ble_eq_true rfl, Nat.le_of_ble_eq_true rfl⟩) rfl hl.1 rfl (Nat.le_of_ble_eq_true rfl) ⟨Nat.zero_le _, Nat.zero_le _⟩ dX9_bluff_56 (fun H locs hW => ?_)
            refine lv_istore (lv' := [(5, .int r16), (0, .ref (ad 0)), (1, .int p0), (2, .int p1), (3, .int p2), (4, .int p3)]) hx hb dX9_bluff_59 hl (by decide) rfl (fun ls hl => ?_)
            refine lv_iload hx hb dX9_bluff_61 (lv_at hl 0 rfl) ?_
            refine lv_if_eq (tgt := 69) hx hb dX9_bluff_63 (by decide) (fun c18 => ?_) (fun c18 => ?_)
            · replace h := ite_t h c18
              refine lv_aload_n hx hb dX9_bluff_69 rfl (lv_at hl 1 rfl) ?_
              refine lv_iload_n hx hb dX9_bluff_70 rfl (lv_at hl 2 rfl) ?_
              refine wd_put hC i9 tyX9_ok nmX9 hW 0 wR_c0 rfl 35 (Nat.le_of_ble_eq_true rfl) f365 rfl rfl rfl rfl (Nat.le_of_ble_eq_true rfl) wR_s0_35 dX9_bluff_71 (fun H locs hW => ?_)
              obtain ⟨T19, e20, h⟩ := nm_of h
              replace hW := wq_T e20 hW
              refine lv_aload_n hx hb dX9_bluff_74 rfl (lv_at hl 1 rfl) ?_
              refine lv_iload_n hx hb dX9_bluff_75 rfl (lv_at hl 3 rfl) ?_
              refine wd_put hC i9 tyX9_ok nmX9 hW 0 wR_c0 rfl 36 (Nat.le_of_ble_eq_true rfl) f368 rfl rfl rfl rfl (Nat.le_of_ble_eq_true rfl) wR_s0_36 dX9_bluff_76 (fun H locs hW => ?_)
              obtain ⟨T21, e22, h⟩ := nm_of h
              replace hW := wq_T e22 hW
              refine lv_aload_n hx hb dX9_bluff_79 rfl (lv_at hl 1 rfl) ?_
              refine lv_iload_n hx hb dX9_bluff_80 rfl (lv_at hl 4 rfl) ?_
              refine lv_iload hx hb dX9_bluff_81 (lv_at hl 5 rfl) ?_
              obtain ⟨r23, hr24, h⟩ := bd_of h
              refine wd_callV1 (As := [.int p2, .int p3]) hC hW 0 wR_c0 rfl (c_X9_duelAt l D cy ad X n T21 p2 p3 r23 hr24) (cwV 2 hts (gu_V w_46_21 w_46_18 w_46_19 w_46_20 w_1_5) rfl rfl rfl hdX9_duelAt ⟨Nat.le_of_ble_eq_true rfl, Nat.le_of_ble_eq_true rfl⟩) rfl hl.1 rfl (Nat.le_of_ble_eq_true rfl) ⟨Nat.zero_le _, Nat.zero_le _⟩ dX9_bluff_83 (fun H locs hW => ?_)
              refine lv_istore (lv' := [(6, .int r23.1), (5, .int r16), (0, .ref (ad 0)), (1, .int p0), (2, .int p1), (3, .int p2), (4, .int p3)]) hx hb dX9_bluff_86 hl (by decide) rfl (fun ls hl => ?_)
              refine lv_aload_n hx hb dX9_bluff_88 rfl (lv_at hl 2 rfl) ?_
              refine lv_iload_n hx hb dX9_bluff_89 rfl (lv_at hl 5 rfl) ?_
              refine lv_iload hx hb dX9_bluff_90 (lv_at hl 6 rfl) ?_
              obtain ⟨r25, hr26, h⟩ := bd_of h
              refine wd_callV0 (As := [.int p2, .int p3]) hC hW 0 wR_c0 rfl (c_X9_entersDuel l D cy ad X r23.2 p2 p3 r25 hr26) (cwV 2 hts (gu_V w_48_11 w_48_8 w_48_9 w_48_10 w_1_5) rfl rfl rfl hdX9_entersDuel ⟨Nat.le_of_ble_eq_true rfl, Nat.le_of_ble_eq_true rfl⟩) rfl hl.1 rfl (Nat.le_of_ble_eq_true rfl) ⟨Nat.zero_le _, Nat.zero_le _⟩ dX9_bluff_92 (fun H locs hW => ?_)
              refine lv_iload hx hb dX9_bluff_95 (lv_at hl 0 rfl) ?_
              obtain rfl := Option.some.inj h
              exact wd_iret hA hQ hC hr hk hW dX9_bluff_97
            · replace h := ite_f h c18
              refine lv_iload hx hb dX9_bluff_66 (lv_at hl 0 rfl) ?_
              obtain rfl := Option.some.inj h
              exact wd_iret hA hQ hC hr hk hW dX9_bluff_68
          · replace h := ite_t h c15
            refine lv_iconst (v := (-1)) hx hb dX9_bluff_51 (by decide) ?_
            obtain rfl := Option.some.inj h
            exact wd_iret hA hQ hC hr hk hW dX9_bluff_52
def m_X9_draw (T : St) (p0 : Int32) : Option (Int32 × St) :=
  nm (sI T 39 (((T.1 39) * 1103515245) + 12345)) (fun T1 => ckd p0 (some (irm (usr (T1.1 39) 16) p0, T1)))
set_option maxHeartbeats 4000000 in
set_option maxRecDepth 100000 in
theorem c_X9_draw (l : Launch) (D : va_G) (cy : Nat → ClassId) (ad : Nat → Nat) (X : va_W) (T : St) (p0 : Int32) (r : (Int32 × St)) (h : m_X9_draw T p0 = some r) : CT l yX9_draw (wu yX9_draw cX9_draw 2 (some .int)) 0 D cy [.ref (ad 0), .int p0] (wR ad cy T ++ X) (some (.int r.1)) (wR ad cy r.2 ++ X) := by
  refine CT.mk (cc := cX9_draw) (maxL := 2) (ret := (some .int)) (own := RX9) (by decide) rfl rfl (Nat.le_of_ble_eq_true rfl) ?_
  intro p e s m args below meth c ls A Q hA hQ hC hr hk hW hl
  have hx := hC.1
  have hb := hC.2.1
  have hown := hC.2.2.2.1
  have hts := hC.2.2.2.2
  have hl : lv_has ls 2 [(0, .ref (ad 0)), (1, .int p0)] := hl
  have f409 := hts _ (wu_in w_49_12)
  have i9 := (fun w h => wu_in (inc_9 w h) : ∀ w ∈ u_ws RX9 TX9 40, w ∈ (wu yX9_draw cX9_draw 2 (some .int)))
  have k412 := hts _ (wu_in w_49_21)
  unfold m_X9_draw at h
  refine lv_aload_n hx hb dX9_draw_0 rfl (lv_at hl 0 rfl) ?_
  refine lv_aload_n hx hb dX9_draw_1 rfl (lv_at hl 0 rfl) ?_
  refine wd_get hC i9 hW 0 wR_c0 rfl 39 (Nat.le_of_ble_eq_true rfl) f409 rfl rfl dX9_draw_2 ?_
  refine lv_ldcw hx hb hown k412 dX9_draw_5 ?_
  refine lv_imul hx hb dX9_draw_8 ?_
  refine lv_sipush (v := 12345) hx hb dX9_draw_9 (by decide) ?_
  refine lv_iadd hx hb dX9_draw_12 ?_
  refine wd_put hC i9 tyX9_ok nmX9 hW 0 wR_c0 rfl 39 (Nat.le_of_ble_eq_true rfl) f409 rfl rfl rfl rfl (Nat.le_of_ble_eq_true rfl) wR_s0_39 dX9_draw_13 (fun H locs hW => ?_)
  obtain ⟨T1, e2, h⟩ := nm_of h
  replace hW := wq_T e2 hW
  refine lv_aload_n hx hb dX9_draw_16 rfl (lv_at hl 0 rfl) ?_
  refine wd_get hC i9 hW 0 wR_c0 rfl 39 (Nat.le_of_ble_eq_true rfl) f409 rfl rfl dX9_draw_17 ?_
  refine lv_bipush (v := 16) hx hb dX9_draw_20 (by decide) ?_
  refine lv_iushr (v := usr (T1.1 39) 16) hx hb dX9_draw_22 rfl ?_
  refine lv_iload_n hx hb dX9_draw_23 rfl (lv_at hl 1 rfl) ?_
  obtain ⟨hd3, h⟩ := ckd_of h
  refine lv_irem hx hb dX9_draw_24 hd3 ?_
  obtain rfl := Option.some.inj h
  exact wd_iret hA hQ hC hr hk hW dX9_draw_25
def m_X9_playsOn_L7 : Nat → St → Int32 → Int32 → Option (St × Int32)
  | 0, _, _, _ => none
  | n + 1, T, x1, x2 =>
    if x2 = (-1) then (some (T, x1)) else ((m_X9_draw T 1000).bind (fun r6 => ck 0 63 ((m_X9_of r6.2 x2 0).bind (fun r9 => (m_X9_of r6.2 x2 4).bind (fun r11 => (m_X9_oddsOf n r6.2 x2 (r6.2.2.1 11 ((0 : Int32).toNatClampNeg)) r9 r11).bind (fun r13 => ((if r13 ≤ r6.1 then (some 0) else (some 1) : Option (Int32))).bind (fun q16 => (m_X9_doesTry n r6.2 x2 q16).bind (fun r18 => (m_X9_calledNow n r18).bind (fun r20 => m_X9_playsOn_L7 n r18 (x1 + 1) r20)))))))))
theorem m_X9_playsOn_L7_0 (T : St) (x1 : Int32) (x2 : Int32) : m_X9_playsOn_L7 0 T x1 x2 = none := rfl
theorem m_X9_playsOn_L7_s {n : Nat} {T : St} {x1 : Int32} {x2 : Int32} : m_X9_playsOn_L7 (n + 1) T x1 x2 =
    (if x2 = (-1) then (some (T, x1)) else ((m_X9_draw T 1000).bind (fun r6 => ck 0 63 ((m_X9_of r6.2 x2 0).bind (fun r9 => (m_X9_of r6.2 x2 4).bind (fun r11 => (m_X9_oddsOf n r6.2 x2 (r6.2.2.1 11 ((0 : Int32).toNatClampNeg)) r9 r11).bind (fun r13 => ((if r13 ≤ r6.1 then (some 0) else (some 1) : Option (Int32))).bind (fun q16 => (m_X9_doesTry n r6.2 x2 q16).bind (fun r18 => (m_X9_calledNow n r18).bind (fun r20 => m_X9_playsOn_L7 n r18 (x1 + 1) r20)))))))))) := rfl
def m_X9_playsOn (n : Nat) (T : St) : Option (Int32 × St) :=
  (m_X9_calledNow n T).bind (fun r1 => (m_X9_playsOn_L7 n T 0 r1).bind (fun q3 => some (q3.2, q3.1)))
set_option maxHeartbeats 4000000 in
set_option maxRecDepth 100000 in
theorem c_X9_playsOn (l : Launch) (D : va_G) (cy : Nat → ClassId) (ad : Nat → Nat) (X : va_W) (n : Nat) (T : St) (r : (Int32 × St)) (h : m_X9_playsOn n T = some r) : CT l yX9_playsOn (wu yX9_playsOn cX9_playsOn 3 (some .int)) 6 D cy [.ref (ad 0)] (wR ad cy T ++ X) (some (.int r.1)) (wR ad cy r.2 ++ X) := by
  refine CT.mk (cc := cX9_playsOn) (maxL := 3) (ret := (some .int)) (own := RX9) (by decide) rfl rfl (Nat.le_of_ble_eq_true rfl) ?_
  intro p e s m args below meth c ls A Q hA hQ hC hr hk hW hl
  have hx := hC.1
  have hb := hC.2.1
  have hown := hC.2.2.2.1
  have hts := hC.2.2.2.2
  have hl : lv_has ls 3 [(0, .ref (ad 0))] := hl
  have f32 := hts _ (wu_in w_5_10)
  have i9 := (fun w h => wu_in (inc_9 w h) : ∀ w ∈ u_ws RX9 TX9 40, w ∈ (wu yX9_playsOn cX9_playsOn 3 (some .int)))
  unfold m_X9_playsOn at h
  refine lv_iconst (v := 0) hx hb dX9_playsOn_0 (by decide) ?_
  refine lv_istore_n (lv' := [(1, .int 0), (0, .ref (ad 0))]) hx hb dX9_playsOn_1 rfl hl (by decide) rfl (fun ls hl => ?_)
  refine lv_aload_n hx hb dX9_playsOn_2 rfl (lv_at hl 1 rfl) ?_
  obtain ⟨r1, hr2, h⟩ := bd_of h
  refine wd_callV1 (As := []) hC hW 0 wR_c0 rfl (c_X9_calledNow l D cy ad X n T r1 hr2) (cwV 0 hts (gu_V w_19_6 w_19_3 w_19_4 w_19_5 w_1_5) rfl rfl rfl hdX9_calledNow ⟨Nat.le_of_ble_eq_true rfl, Nat.le_of_ble_eq_true rfl⟩) rfl hl.1 rfl (Nat.le_of_ble_eq_true rfl) ⟨Nat.zero_le _, Nat.zero_le _⟩ dX9_playsOn_3 (fun H locs hW => ?_)
  refine lv_istore_n (lv' := [(2, .int r1), (1, .int 0), (0, .ref (ad 0))]) hx hb dX9_playsOn_6 rfl hl (by decide) rfl (fun ls hl => ?_)
  have hL7 : ∀ (n : Nat) (T : St) (x1 : Int32) (x2 : Int32)  (H : Heap) (locs : List Loc) (ls : Array Slot) (r : (St × Int32)), m_X9_playsOn_L7 n T x1 x2 = some r → Wd D cy A s (wR ad cy T ++ X) H locs → lv_has ls 3 [(0, .ref (ad 0)), (1, .int x1), (2, .int x2)] → (∀ (H : Heap) (locs : List Loc) (ls : Array Slot), Wd D cy A s (wR ad cy r.1 ++ X) H locs → lv_has ls 3 [(0, .ref (ad 0)), (1, .int r.2)] → W p l e (RM 6) s m args below meth c H locs 0 0 Q (F0 m 66 ls [])) → W p l e (RM 6) s m args below meth c H locs 0 0 Q (F0 m 7 ls []) := by
    intro n
    induction n with
    | zero =>
      intro T x1 x2  H locs ls r h
      exact absurd (h.symm.trans (m_X9_playsOn_L7_0 ..)) (by simp)
    | succ n ih =>
      intro T x1 x2  H locs ls r h hW hl kk
      rw [m_X9_playsOn_L7_s] at h
      refine lv_iload_n hx hb dX9_playsOn_7 rfl (lv_at hl 2 rfl) ?_
      refine lv_iconst (v := (-1)) hx hb dX9_playsOn_8 (by decide) ?_
      refine lv_icmp_eq (tgt := 66) hx hb dX9_playsOn_9 (by decide) (fun c5 => ?_) (fun c5 => ?_)
      · replace h := ite_t h c5
        obtain rfl := Option.some.inj h
        exact kk _ _ _ hW (lv_sub hl [0, 1] rfl)
      · replace h := ite_f h c5
        refine lv_aload_n hx hb dX9_playsOn_12 rfl (lv_at hl 0 rfl) ?_
        refine lv_iload_n hx hb dX9_playsOn_13 rfl (lv_at hl 2 rfl) ?_
        refine lv_aload_n hx hb dX9_playsOn_14 rfl (lv_at hl 0 rfl) ?_
        refine lv_sipush (v := 1000) hx hb dX9_playsOn_15 (by decide) ?_
        obtain ⟨r6, hr7, h⟩ := bd_of h
        refine wd_callV1 (As := [.int 1000]) hC hW 0 wR_c0 rfl (c_X9_draw l D cy ad X T 1000 r6 hr7) (cwV 1 hts (gu_V w_49_20 w_49_17 w_49_18 w_49_19 w_1_5) rfl rfl rfl hdX9_draw ⟨Nat.le_of_ble_eq_true rfl, Nat.le_of_ble_eq_true rfl⟩) rfl hl.1 rfl (Nat.le_of_ble_eq_true rfl) ⟨Nat.zero_le _, Nat.zero_le _⟩ dX9_playsOn_18 (fun H locs hW => ?_)
        refine lv_aload_n hx hb dX9_playsOn_21 rfl (lv_at hl 0 rfl) ?_
        refine lv_iload_n hx hb dX9_playsOn_22 rfl (lv_at hl 2 rfl) ?_
        refine lv_aload_n hx hb dX9_playsOn_23 rfl (lv_at hl 0 rfl) ?_
        refine wd_get hC i9 hW 0 wR_c0 rfl 11 (Nat.le_of_ble_eq_true rfl) f32 rfl rfl dX9_playsOn_24 ?_
        refine lv_iconst (v := 0) hx hb dX9_playsOn_27 (by decide) ?_
        obtain ⟨hi8, h⟩ := ck_of h
        refine wd_iald hC hW 8 wR_c8 hi8 dX9_playsOn_28 ?_
        refine lv_aload_n hx hb dX9_playsOn_29 rfl (lv_at hl 0 rfl) ?_
        refine lv_iload_n hx hb dX9_playsOn_30 rfl (lv_at hl 2 rfl) ?_
        refine lv_iconst (v := 0) hx hb dX9_playsOn_31 (by decide) ?_
        obtain ⟨r9, hr10, h⟩ := bd_of h
        refine wd_callV1 (As := [.int x2, .int 0]) hC hW 0 wR_c0 rfl (c_X9_of l D cy ad X r6.2 x2 0 r9 hr10) (cwV 2 hts (gu_V w_12_0 w_11_21 w_11_22 w_11_23 w_1_5) rfl rfl rfl hdX9_of ⟨Nat.le_of_ble_eq_true rfl, Nat.le_of_ble_eq_true rfl⟩) rfl hl.1 rfl (Nat.le_of_ble_eq_true rfl) ⟨Nat.zero_le _, Nat.zero_le _⟩ dX9_playsOn_32 (fun H locs hW => ?_)
        refine lv_aload_n hx hb dX9_playsOn_35 rfl (lv_at hl 0 rfl) ?_
        refine lv_iload_n hx hb dX9_playsOn_36 rfl (lv_at hl 2 rfl) ?_
        refine lv_iconst (v := 4) hx hb dX9_playsOn_37 (by decide) ?_
        obtain ⟨r11, hr12, h⟩ := bd_of h
        refine wd_callV1 (As := [.int x2, .int 4]) hC hW 0 wR_c0 rfl (c_X9_of l D cy ad X r6.2 x2 4 r11 hr12) (cwV 2 hts (gu_V w_12_0 w_11_21 w_11_22 w_11_23 w_1_5) rfl rfl rfl hdX9_of ⟨Nat.le_of_ble_eq_true rfl, Nat.le_of_ble_eq_true rfl⟩) rfl hl.1 rfl (Nat.le_of_ble_eq_true rfl) ⟨Nat.zero_le _, Nat.zero_le _⟩ dX9_playsOn_38 (fun H locs hW => ?_)
        obtain ⟨r13, hr14, h⟩ := bd_of h
        refine wd_callV1 (As := [.int x2, .int (r6.2.2.1 11 ((0 : Int32).toNatClampNeg)), .int r9, .int r11]) hC hW 0 wR_c0 rfl (c_X9_oddsOf l D cy ad X n r6.2 x2 (r6.2.2.1 11 ((0 : Int32).toNatClampNeg)) r9 r11 r13 hr14) (cwV 4 hts (gu_V w_15_23 w_15_20 w_15_21 w_15_22 w_1_5) rfl rfl rfl hdX9_oddsOf ⟨Nat.le_of_ble_eq_true rfl, Nat.le_of_ble_eq_true rfl⟩) rfl hl.1 rfl (Nat.le_of_ble_eq_true rfl) ⟨Nat.zero_le _, Nat.zero_le _⟩ dX9_playsOn_41 (fun H locs hW => ?_)
        obtain ⟨q16, hq17, h⟩ := bd_of h
        have hJ52 : ∀ (H : Heap) (locs : List Loc) (ls : Array Slot), Wd D cy A s (wR ad cy r6.2 ++ X) H locs → lv_has ls 3 [(0, .ref (ad 0)), (1, .int x1), (2, .int x2)] → W p l e (RM 6) s m args below meth c H locs 0 0 Q (F0 m 52 ls [.int q16, .int x2, .ref (ad 0)]) := by
          intro H locs ls hW hl
          obtain ⟨r18, hr19, h⟩ := bd_of h
          refine wd_callV0 (As := [.int x2, .int q16]) hC hW 0 wR_c0 rfl (c_X9_doesTry l D cy ad X n r6.2 x2 q16 r18 hr19) (cwV 2 hts (gu_V w_21_13 w_21_10 w_21_11 w_21_12 w_1_5) rfl rfl rfl hdX9_doesTry ⟨Nat.le_of_ble_eq_true rfl, Nat.le_of_ble_eq_true rfl⟩) rfl hl.1 rfl (Nat.le_of_ble_eq_true rfl) ⟨Nat.zero_le _, Nat.zero_le _⟩ dX9_playsOn_52 (fun H locs hW => ?_)
          refine lv_iinc (v := x1 + 1) (lv' := [(1, .int (x1 + 1)), (0, .ref (ad 0)), (2, .int x2)]) hx hb dX9_playsOn_55 hl (k := 1) rfl rfl (by decide) rfl (fun ls hl => ?_)
          refine lv_aload_n hx hb dX9_playsOn_58 rfl (lv_at hl 1 rfl) ?_
          obtain ⟨r20, hr21, h⟩ := bd_of h
          refine wd_callV1 (As := []) hC hW 0 wR_c0 rfl (c_X9_calledNow l D cy ad X n r18 r20 hr21) (cwV 0 hts (gu_V w_19_6 w_19_3 w_19_4 w_19_5 w_1_5) rfl rfl rfl hdX9_calledNow ⟨Nat.le_of_ble_eq_true rfl, Nat.le_of_ble_eq_true rfl⟩) rfl hl.1 rfl (Nat.le_of_ble_eq_true rfl) ⟨Nat.zero_le _, Nat.zero_le _⟩ dX9_playsOn_59 (fun H locs hW => ?_)
          refine lv_istore_n (lv' := [(2, .int r20), (1, .int (x1 + 1)), (0, .ref (ad 0))]) hx hb dX9_playsOn_62 rfl hl (by decide) rfl (fun ls hl => ?_)
          refine lv_goto (tgt := 7) hx hb dX9_playsOn_63 (by decide) ?_
          exact ih r18 (x1 + 1) r20 _ _ _ r h hW (lv_sub hl [2, 1, 0] rfl) kk
        replace h := hq17
        refine lv_icmp_ge (tgt := 51) hx hb dX9_playsOn_44 (by decide) (fun c15 => ?_) (fun c15 => ?_)
        · replace h := ite_t h c15
          refine lv_iconst (v := 0) hx hb dX9_playsOn_51 (by decide) ?_
          obtain rfl := Option.some.inj h
          exact hJ52 _ _ _ hW (lv_sub hl [0, 1, 2] rfl)
        · replace h := ite_f h c15
          refine lv_iconst (v := 1) hx hb dX9_playsOn_47 (by decide) ?_
          refine lv_goto (tgt := 52) hx hb dX9_playsOn_48 (by decide) ?_
          obtain rfl := Option.some.inj h
          exact hJ52 _ _ _ hW (lv_sub hl [0, 1, 2] rfl)
  obtain ⟨q3, hq4, h⟩ := bd_of h
  refine hL7 n T 0 r1  _ _ _ q3 hq4 hW (lv_sub hl [2, 1, 0] rfl) (fun H locs ls hW hl => ?_)
  refine lv_iload_n hx hb dX9_playsOn_66 rfl (lv_at hl 1 rfl) ?_
  obtain rfl := Option.some.inj h
  exact wd_iret hA hQ hC hr hk hW dX9_playsOn_67
def m_X9_plays (n : Nat) (T : St) (p0 : Int32) : Option (Int32 × St) :=
  nm (sI T 0 0) (fun T1 => (m_X9_calledNow n T1).bind (fun r3 => if r3 = (-1) then (some ((-2), T1)) else (nm (sI T1 39 p0) (fun T6 => (m_X9_playsOn n T6).bind (fun r8 => (m_X9_entersPlaces n r8.2).bind (fun r10 => some (r8.1, r10)))))))
set_option maxHeartbeats 4000000 in
set_option maxRecDepth 100000 in
theorem c_X9_plays (l : Launch) (D : va_G) (cy : Nat → ClassId) (ad : Nat → Nat) (X : va_W) (n : Nat) (T : St) (p0 : Int32) (r : (Int32 × St)) (h : m_X9_plays n T p0 = some r) : CT l yX9_plays (wu yX9_plays cX9_plays 3 (some .int)) 7 D cy [.ref (ad 0), .int p0] (wR ad cy T ++ X) (some (.int r.1)) (wR ad cy r.2 ++ X) := by
  refine CT.mk (cc := cX9_plays) (maxL := 3) (ret := (some .int)) (own := RX9) (by decide) rfl rfl (Nat.le_of_ble_eq_true rfl) ?_
  intro p e s m args below meth c ls A Q hA hQ hC hr hk hW hl
  have hx := hC.1
  have hb := hC.2.1
  have hown := hC.2.2.2.1
  have hts := hC.2.2.2.2
  have hl : lv_has ls 3 [(0, .ref (ad 0)), (1, .int p0)] := hl
  have f77 := hts _ (wu_in w_6_14)
  have i9 := (fun w h => wu_in (inc_9 w h) : ∀ w ∈ u_ws RX9 TX9 40, w ∈ (wu yX9_plays cX9_plays 3 (some .int)))
  have f409 := hts _ (wu_in w_49_12)
  unfold m_X9_plays at h
  refine lv_aload_n hx hb dX9_plays_0 rfl (lv_at hl 0 rfl) ?_
  refine lv_iconst (v := 0) hx hb dX9_plays_1 (by decide) ?_
  refine wd_put hC i9 tyX9_ok nmX9 hW 0 wR_c0 rfl 0 (Nat.le_of_ble_eq_true rfl) f77 rfl rfl rfl rfl (Nat.le_of_ble_eq_true rfl) wR_s0_0 dX9_plays_2 (fun H locs hW => ?_)
  obtain ⟨T1, e2, h⟩ := nm_of h
  replace hW := wq_T e2 hW
  refine lv_aload_n hx hb dX9_plays_5 rfl (lv_at hl 0 rfl) ?_
  obtain ⟨r3, hr4, h⟩ := bd_of h
  refine wd_callV1 (As := []) hC hW 0 wR_c0 rfl (c_X9_calledNow l D cy ad X n T1 r3 hr4) (cwV 0 hts (gu_V w_19_6 w_19_3 w_19_4 w_19_5 w_1_5) rfl rfl rfl hdX9_calledNow ⟨Nat.le_of_ble_eq_true rfl, Nat.le_of_ble_eq_true rfl⟩) rfl hl.1 rfl (Nat.le_of_ble_eq_true rfl) ⟨Nat.zero_le _, Nat.zero_le _⟩ dX9_plays_6 (fun H locs hW => ?_)
  refine lv_iconst (v := (-1)) hx hb dX9_plays_9 (by decide) ?_
  refine lv_icmp_ne (tgt := 16) hx hb dX9_plays_10 (by decide) (fun c5 => ?_) (fun c5 => ?_)
  · replace h := ite_f h c5
    refine lv_aload_n hx hb dX9_plays_16 rfl (lv_at hl 0 rfl) ?_
    refine lv_iload_n hx hb dX9_plays_17 rfl (lv_at hl 1 rfl) ?_
    refine wd_put hC i9 tyX9_ok nmX9 hW 0 wR_c0 rfl 39 (Nat.le_of_ble_eq_true rfl) f409 rfl rfl rfl rfl (Nat.le_of_ble_eq_true rfl) wR_s0_39 dX9_plays_18 (fun H locs hW => ?_)
    obtain ⟨T6, e7, h⟩ := nm_of h
    replace hW := wq_T e7 hW
    refine lv_aload_n hx hb dX9_plays_21 rfl (lv_at hl 0 rfl) ?_
    obtain ⟨r8, hr9, h⟩ := bd_of h
    refine wd_callV1 (As := []) hC hW 0 wR_c0 rfl (c_X9_playsOn l D cy ad X n T6 r8 hr9) (cwV 0 hts (gu_V w_49_16 w_49_13 w_49_14 w_49_15 w_1_5) rfl rfl rfl hdX9_playsOn ⟨Nat.le_of_ble_eq_true rfl, Nat.le_of_ble_eq_true rfl⟩) rfl hl.1 rfl (Nat.le_of_ble_eq_true rfl) ⟨Nat.zero_le _, Nat.zero_le _⟩ dX9_plays_22 (fun H locs hW => ?_)
    refine lv_istore_n (lv' := [(2, .int r8.1), (0, .ref (ad 0)), (1, .int p0)]) hx hb dX9_plays_25 rfl hl (by decide) rfl (fun ls hl => ?_)
    refine lv_aload_n hx hb dX9_plays_26 rfl (lv_at hl 1 rfl) ?_
    obtain ⟨r10, hr11, h⟩ := bd_of h
    refine wd_callV0 (As := []) hC hW 0 wR_c0 rfl (c_X9_entersPlaces l D cy ad X n r8.2 r10 hr11) (cwV 0 hts (gu_V w_23_19 w_23_16 w_23_17 w_23_18 w_1_5) rfl rfl rfl hdX9_entersPlaces ⟨Nat.le_of_ble_eq_true rfl, Nat.le_of_ble_eq_true rfl⟩) rfl hl.1 rfl (Nat.le_of_ble_eq_true rfl) ⟨Nat.zero_le _, Nat.zero_le _⟩ dX9_plays_27 (fun H locs hW => ?_)
    refine lv_iload_n hx hb dX9_plays_30 rfl (lv_at hl 0 rfl) ?_
    obtain rfl := Option.some.inj h
    exact wd_iret hA hQ hC hr hk hW dX9_plays_31
  · replace h := ite_t h c5
    refine lv_bipush (v := (-2)) hx hb dX9_plays_13 (by decide) ?_
    obtain rfl := Option.some.inj h
    exact wd_iret hA hQ hC hr hk hW dX9_plays_15
def m_X9_often_L42 : Nat → St → Int32 → Int32 → Int32 → Int32 → Int32 → Int32 → Option (St)
  | 0, _, _, _, _, _, _, _ => none
  | n + 1, T, x1, x2, x3, x4, x5, x6 =>
    if 63 ≤ x6 then (some T) else (ck x6 63 (ck x6 63 (nm (sA T 12 x6.toNatClampNeg (T.2.1 11 x6.toNatClampNeg)) (fun T14 => m_X9_often_L42 n T14 x1 x2 x3 x4 x5 (x6 + 1)))))
theorem m_X9_often_L42_0 (T : St) (x1 : Int32) (x2 : Int32) (x3 : Int32) (x4 : Int32) (x5 : Int32) (x6 : Int32) : m_X9_often_L42 0 T x1 x2 x3 x4 x5 x6 = none := rfl
theorem m_X9_often_L42_s {n : Nat} {T : St} {x1 : Int32} {x2 : Int32} {x3 : Int32} {x4 : Int32} {x5 : Int32} {x6 : Int32} : m_X9_often_L42 (n + 1) T x1 x2 x3 x4 x5 x6 =
    (if 63 ≤ x6 then (some T) else (ck x6 63 (ck x6 63 (nm (sA T 12 x6.toNatClampNeg (T.2.1 11 x6.toNatClampNeg)) (fun T14 => m_X9_often_L42 n T14 x1 x2 x3 x4 x5 (x6 + 1)))))) := rfl
def m_X9_often_L155 : Nat → St → Int32 → Int32 → Int32 → Int32 → Int32 → Int32 → Int32 → Int32 → Int32 → Option (St)
  | 0, _, _, _, _, _, _, _, _, _, _ => none
  | n + 1, T, x1, x2, x4, x5, x6, x7, x8, x9, x10 =>
    if 63 ≤ x10 then (some T) else (ck x10 63 (ck x10 63 (nm (sA T 11 x10.toNatClampNeg (T.2.1 12 x10.toNatClampNeg)) (fun T41 => m_X9_often_L155 n T41 x1 x2 x4 x5 x6 x7 x8 x9 (x10 + 1)))))
theorem m_X9_often_L155_0 (T : St) (x1 : Int32) (x2 : Int32) (x4 : Int32) (x5 : Int32) (x6 : Int32) (x7 : Int32) (x8 : Int32) (x9 : Int32) (x10 : Int32) : m_X9_often_L155 0 T x1 x2 x4 x5 x6 x7 x8 x9 x10 = none := rfl
theorem m_X9_often_L155_s {n : Nat} {T : St} {x1 : Int32} {x2 : Int32} {x4 : Int32} {x5 : Int32} {x6 : Int32} {x7 : Int32} {x8 : Int32} {x9 : Int32} {x10 : Int32} : m_X9_often_L155 (n + 1) T x1 x2 x4 x5 x6 x7 x8 x9 x10 =
    (if 63 ≤ x10 then (some T) else (ck x10 63 (ck x10 63 (nm (sA T 11 x10.toNatClampNeg (T.2.1 12 x10.toNatClampNeg)) (fun T41 => m_X9_often_L155 n T41 x1 x2 x4 x5 x6 x7 x8 x9 (x10 + 1)))))) := rfl
def m_X9_often_L89 : Nat → St → Int32 → Int32 → Int32 → Int32 → Int32 → Int32 → Int32 → Int32 → Option (St × Int32 × Int32 × Int32)
  | 0, _, _, _, _, _, _, _, _, _ => none
  | n + 1, T, x1, x2, x4, x5, x6, x7, x8, x9 =>
    if x2 ≤ x9 then (some (T, x6, x7, x8)) else ((m_X9_playsOn n T).bind (fun r21 => (m_X9_isOut r21.2 x1).bind (fun r23 => ((if r23 = 0 then ((m_X9_aheadOf n r21.2 x1).bind (fun r47 => if r47 = 0 then (some 1) else (some 0))) else (some 0) : Option (Int32))).bind (fun q26 => (m_X9_flag r21.2 q26).bind (fun r28 => (m_X9_isOut r21.2 x1).bind (fun r30 => (m_X9_flag r21.2 r30).bind (fun r32 => (m_X9_sumOf r21.2 x1).bind (fun r34 => (m_X9_often_L155 n r21.2 x1 x2 x4 x5 (x6 + r28) (x7 + r32) (x8 + r34) x9 0).bind (fun q36 => nm (sI q36 13 x4) (fun T43 => nm (sI T43 14 x5) (fun T45 => m_X9_often_L89 n T45 x1 x2 x4 x5 (x6 + r28) (x7 + r32) (x8 + r34) (x9 + 1))))))))))))
theorem m_X9_often_L89_0 (T : St) (x1 : Int32) (x2 : Int32) (x4 : Int32) (x5 : Int32) (x6 : Int32) (x7 : Int32) (x8 : Int32) (x9 : Int32) : m_X9_often_L89 0 T x1 x2 x4 x5 x6 x7 x8 x9 = none := rfl
theorem m_X9_often_L89_s {n : Nat} {T : St} {x1 : Int32} {x2 : Int32} {x4 : Int32} {x5 : Int32} {x6 : Int32} {x7 : Int32} {x8 : Int32} {x9 : Int32} : m_X9_often_L89 (n + 1) T x1 x2 x4 x5 x6 x7 x8 x9 =
    (if x2 ≤ x9 then (some (T, x6, x7, x8)) else ((m_X9_playsOn n T).bind (fun r21 => (m_X9_isOut r21.2 x1).bind (fun r23 => ((if r23 = 0 then ((m_X9_aheadOf n r21.2 x1).bind (fun r47 => if r47 = 0 then (some 1) else (some 0))) else (some 0) : Option (Int32))).bind (fun q26 => (m_X9_flag r21.2 q26).bind (fun r28 => (m_X9_isOut r21.2 x1).bind (fun r30 => (m_X9_flag r21.2 r30).bind (fun r32 => (m_X9_sumOf r21.2 x1).bind (fun r34 => (m_X9_often_L155 n r21.2 x1 x2 x4 x5 (x6 + r28) (x7 + r32) (x8 + r34) x9 0).bind (fun q36 => nm (sI q36 13 x4) (fun T43 => nm (sI T43 14 x5) (fun T45 => m_X9_often_L89 n T45 x1 x2 x4 x5 (x6 + r28) (x7 + r32) (x8 + r34) (x9 + 1))))))))))))) := rfl
def m_X9_often (n : Nat) (T : St) (p0 : Int32) (p1 : Int32) (p2 : Int32) : Option (Int32 × St) :=
  nm (sI T 0 0) (fun T1 => (m_X9_isLifter T1 p0).bind (fun r3 => if r3 = 0 then (some ((-1), T1)) else ((m_X9_in T1 p1.toInt64 1 50).bind (fun r6 => if r6 = 0 then (some ((-1), T1)) else ((m_X9_often_L42 n T1 p0 p1 p2 (T1.1 13) (T1.1 14) 0).bind (fun q9 => nm (sI q9 39 p2) (fun T16 => (m_X9_often_L89 n T16 p0 p1 (T1.1 13) (T1.1 14) 0 0 0 0).bind (fun q18 => nm (sI q18.1 1 0) (fun T50 => (m_X9_notes T50 q18.2.2.1.toInt64).bind (fun r52 => (m_X9_notes r52 q18.2.2.2.toInt64).bind (fun r54 => some (q18.2.1, r54))))))))))))
set_option maxHeartbeats 4000000 in
set_option maxRecDepth 100000 in
theorem c_X9_often (l : Launch) (D : va_G) (cy : Nat → ClassId) (ad : Nat → Nat) (X : va_W) (n : Nat) (T : St) (p0 : Int32) (p1 : Int32) (p2 : Int32) (r : (Int32 × St)) (h : m_X9_often n T p0 p1 p2 = some r) : CT l yX9_often (wu yX9_often cX9_often 11 (some .int)) 7 D cy [.ref (ad 0), .int p0, .int p1, .int p2] (wR ad cy T ++ X) (some (.int r.1)) (wR ad cy r.2 ++ X) := by
  refine CT.mk (cc := cX9_often) (maxL := 11) (ret := (some .int)) (own := RX9) (by decide) rfl rfl (Nat.le_of_ble_eq_true rfl) ?_
  intro p e s m args below meth c ls A Q hA hQ hC hr hk hW hl
  have hx := hC.1
  have hb := hC.2.1
  have hown := hC.2.2.2.1
  have hts := hC.2.2.2.2
  have hl : lv_has ls 11 [(0, .ref (ad 0)), (1, .int p0), (2, .int p1), (3, .int p2)] := hl
  have f77 := hts _ (wu_in w_6_14)
  have i9 := (fun w h => wu_in (inc_9 w h) : ∀ w ∈ u_ws RX9 TX9 40, w ∈ (wu yX9_often cX9_often 11 (some .int)))
  have k419 := hts _ (wu_in w_50_10)
  have f131 := hts _ (wu_in w_11_7)
  have f134 := hts _ (wu_in w_11_8)
  have f32 := hts _ (wu_in w_5_10)
  have f35 := hts _ (wu_in w_5_11)
  have f409 := hts _ (wu_in w_49_12)
  have f81 := hts _ (wu_in w_19_2)
  unfold m_X9_often at h
  refine lv_aload_n hx hb dX9_often_0 rfl (lv_at hl 0 rfl) ?_
  refine lv_iconst (v := 0) hx hb dX9_often_1 (by decide) ?_
  refine wd_put hC i9 tyX9_ok nmX9 hW 0 wR_c0 rfl 0 (Nat.le_of_ble_eq_true rfl) f77 rfl rfl rfl rfl (Nat.le_of_ble_eq_true rfl) wR_s0_0 dX9_often_2 (fun H locs hW => ?_)
  obtain ⟨T1, e2, h⟩ := nm_of h
  replace hW := wq_T e2 hW
  refine lv_aload_n hx hb dX9_often_5 rfl (lv_at hl 0 rfl) ?_
  refine lv_iload_n hx hb dX9_often_6 rfl (lv_at hl 1 rfl) ?_
  obtain ⟨r3, hr4, h⟩ := bd_of h
  refine wd_callV1 (As := [.int p0]) hC hW 0 wR_c0 rfl (c_X9_isLifter l D cy ad X T1 p0 r3 hr4) (cwV 1 hts (gu_V w_14_5 w_14_2 w_14_3 w_14_4 w_1_5) rfl rfl rfl hdX9_isLifter ⟨Nat.le_of_ble_eq_true rfl, Nat.le_of_ble_eq_true rfl⟩) rfl hl.1 rfl (Nat.le_of_ble_eq_true rfl) ⟨Nat.zero_le _, Nat.zero_le _⟩ dX9_often_7 (fun H locs hW => ?_)
  refine lv_if_eq (tgt := 25) hx hb dX9_often_10 (by decide) (fun c5 => ?_) (fun c5 => ?_)
  · replace h := ite_t h c5
    refine lv_iconst (v := (-1)) hx hb dX9_often_25 (by decide) ?_
    obtain rfl := Option.some.inj h
    exact wd_iret hA hQ hC hr hk hW dX9_often_26
  · replace h := ite_f h c5
    refine lv_iload_n hx hb dX9_often_13 rfl (lv_at hl 2 rfl) ?_
    refine lv_i2l (v := p1.toInt64) hx hb dX9_often_14 rfl ?_
    refine lv_lconst (v := 1) hx hb dX9_often_15 (by decide) ?_
    refine lv_ldc2 hx hb hown k419 dX9_often_16 ?_
    obtain ⟨r6, hr7, h⟩ := bd_of h
    refine wd_callS1 (As := [.long p1.toInt64, .long 1, .long 50]) hC hW (c_X9_in l D cy ad X T1 p1.toInt64 1 50 r6 hr7) (va_cwS 3 hts (gu_S w_7_6 w_7_4 w_7_5 w_1_5) rfl rfl rfl hdX9_in ⟨Nat.le_of_ble_eq_true rfl, Nat.le_of_ble_eq_true rfl⟩) rfl hl.1 rfl (Nat.le_of_ble_eq_true rfl) ⟨Nat.zero_le _, Nat.zero_le _⟩ dX9_often_19 (fun H locs hW => ?_)
    refine lv_if_ne (tgt := 27) hx hb dX9_often_22 (by decide) (fun c8 => ?_) (fun c8 => ?_)
    · replace h := ite_f h c8
      refine lv_aload_n hx hb dX9_often_27 rfl (lv_at hl 0 rfl) ?_
      refine wd_get hC i9 hW 0 wR_c0 rfl 13 (Nat.le_of_ble_eq_true rfl) f131 rfl rfl dX9_often_28 ?_
      refine lv_istore (lv' := [(4, .int (T1.1 13)), (0, .ref (ad 0)), (1, .int p0), (2, .int p1), (3, .int p2)]) hx hb dX9_often_31 hl (by decide) rfl (fun ls hl => ?_)
      refine lv_aload_n hx hb dX9_often_33 rfl (lv_at hl 1 rfl) ?_
      refine wd_get hC i9 hW 0 wR_c0 rfl 14 (Nat.le_of_ble_eq_true rfl) f134 rfl rfl dX9_often_34 ?_
      refine lv_istore (lv' := [(5, .int (T1.1 14)), (4, .int (T1.1 13)), (0, .ref (ad 0)), (1, .int p0), (2, .int p1), (3, .int p2)]) hx hb dX9_often_37 hl (by decide) rfl (fun ls hl => ?_)
      refine lv_iconst (v := 0) hx hb dX9_often_39 (by decide) ?_
      refine lv_istore (lv' := [(6, .int 0), (5, .int (T1.1 14)), (4, .int (T1.1 13)), (0, .ref (ad 0)), (1, .int p0), (2, .int p1), (3, .int p2)]) hx hb dX9_often_40 hl (by decide) rfl (fun ls hl => ?_)
      have hL42 : ∀ (n : Nat) (T : St) (x1 : Int32) (x2 : Int32) (x3 : Int32) (x4 : Int32) (x5 : Int32) (x6 : Int32)  (H : Heap) (locs : List Loc) (ls : Array Slot) (r : (St)), m_X9_often_L42 n T x1 x2 x3 x4 x5 x6 = some r → Wd D cy A s (wR ad cy T ++ X) H locs → lv_has ls 11 [(0, .ref (ad 0)), (1, .int x1), (2, .int x2), (3, .int x3), (4, .int x4), (5, .int x5), (6, .int x6)] → (∀ (H : Heap) (locs : List Loc) (ls : Array Slot), Wd D cy A s (wR ad cy r ++ X) H locs → lv_has ls 11 [(0, .ref (ad 0)), (1, .int x1), (2, .int x2), (3, .int x3), (4, .int x4), (5, .int x5)] → W p l e (RM 7) s m args below meth c H locs 0 0 Q (F0 m 72 ls [])) → W p l e (RM 7) s m args below meth c H locs 0 0 Q (F0 m 42 ls []) := by
        intro n
        induction n with
        | zero =>
          intro T x1 x2 x3 x4 x5 x6  H locs ls r h
          exact absurd (h.symm.trans (m_X9_often_L42_0 ..)) (by simp)
        | succ n ih =>
          intro T x1 x2 x3 x4 x5 x6  H locs ls r h hW hl kk
          rw [m_X9_often_L42_s] at h
          refine lv_iload hx hb dX9_often_42 (lv_at hl 6 rfl) ?_
          refine lv_aload_n hx hb dX9_often_44 rfl (lv_at hl 0 rfl) ?_
          refine wd_get hC i9 hW 0 wR_c0 rfl 11 (Nat.le_of_ble_eq_true rfl) f32 rfl rfl dX9_often_45 ?_
          refine wd_alen hC hW 8 0 wR_c8 rfl (v := 63) rfl dX9_often_48 ?_
          refine lv_icmp_ge (tgt := 72) hx hb dX9_often_49 (by decide) (fun c11 => ?_) (fun c11 => ?_)
          · replace h := ite_t h c11
            obtain rfl := Option.some.inj h
            exact kk _ _ _ hW (lv_sub hl [0, 1, 2, 3, 4, 5] rfl)
          · replace h := ite_f h c11
            refine lv_aload_n hx hb dX9_often_52 rfl (lv_at hl 0 rfl) ?_
            refine wd_get hC i9 hW 0 wR_c0 rfl 12 (Nat.le_of_ble_eq_true rfl) f35 rfl rfl dX9_often_53 ?_
            refine lv_iload hx hb dX9_often_56 (lv_at hl 6 rfl) ?_
            refine lv_aload_n hx hb dX9_often_58 rfl (lv_at hl 0 rfl) ?_
            refine wd_get hC i9 hW 0 wR_c0 rfl 11 (Nat.le_of_ble_eq_true rfl) f32 rfl rfl dX9_often_59 ?_
            refine lv_iload hx hb dX9_often_62 (lv_at hl 6 rfl) ?_
            obtain ⟨hi12, h⟩ := ck_of h
            refine wd_iald hC hW 8 wR_c8 hi12 dX9_often_64 ?_
            obtain ⟨hi13, h⟩ := ck_of h
            refine wd_iast hC hW 9 wR_c9 hi13 wR_t9 dX9_often_65 (fun H locs hW => ?_)
            obtain ⟨T14, e15, h⟩ := nm_of h
            replace hW := wq_T e15 hW
            refine lv_iinc (v := x6 + 1) (lv' := [(6, .int (x6 + 1)), (0, .ref (ad 0)), (1, .int x1), (2, .int x2), (3, .int x3), (4, .int x4), (5, .int x5)]) hx hb dX9_often_66 hl (k := 6) rfl rfl (by decide) rfl (fun ls hl => ?_)
            refine lv_goto (tgt := 42) hx hb dX9_often_69 (by decide) ?_
            exact ih T14 x1 x2 x3 x4 x5 (x6 + 1) _ _ _ r h hW (lv_sub hl [1, 2, 3, 4, 5, 6, 0] rfl) kk
      obtain ⟨q9, hq10, h⟩ := bd_of h
      refine hL42 n T1 p0 p1 p2 (T1.1 13) (T1.1 14) 0  _ _ _ q9 hq10 hW (lv_sub hl [3, 4, 5, 6, 2, 1, 0] rfl) (fun H locs ls hW hl => ?_)
      refine lv_aload_n hx hb dX9_often_72 rfl (lv_at hl 0 rfl) ?_
      refine lv_iload_n hx hb dX9_often_73 rfl (lv_at hl 3 rfl) ?_
      refine wd_put hC i9 tyX9_ok nmX9 hW 0 wR_c0 rfl 39 (Nat.le_of_ble_eq_true rfl) f409 rfl rfl rfl rfl (Nat.le_of_ble_eq_true rfl) wR_s0_39 dX9_often_74 (fun H locs hW => ?_)
      obtain ⟨T16, e17, h⟩ := nm_of h
      replace hW := wq_T e17 hW
      refine lv_iconst (v := 0) hx hb dX9_often_77 (by decide) ?_
      refine lv_istore (lv' := [(6, .int 0), (0, .ref (ad 0)), (1, .int p0), (2, .int p1), (3, .int p2), (4, .int (T1.1 13)), (5, .int (T1.1 14))]) hx hb dX9_often_78 hl (by decide) rfl (fun ls hl => ?_)
      refine lv_iconst (v := 0) hx hb dX9_often_80 (by decide) ?_
      refine lv_istore (lv' := [(7, .int 0), (6, .int 0), (0, .ref (ad 0)), (1, .int p0), (2, .int p1), (3, .int p2), (4, .int (T1.1 13)), (5, .int (T1.1 14))]) hx hb dX9_often_81 hl (by decide) rfl (fun ls hl => ?_)
      refine lv_iconst (v := 0) hx hb dX9_often_83 (by decide) ?_
      refine lv_istore (lv' := [(8, .int 0), (7, .int 0), (6, .int 0), (0, .ref (ad 0)), (1, .int p0), (2, .int p1), (3, .int p2), (4, .int (T1.1 13)), (5, .int (T1.1 14))]) hx hb dX9_often_84 hl (by decide) rfl (fun ls hl => ?_)
      refine lv_iconst (v := 0) hx hb dX9_often_86 (by decide) ?_
      refine lv_istore (lv' := [(9, .int 0), (8, .int 0), (7, .int 0), (6, .int 0), (0, .ref (ad 0)), (1, .int p0), (2, .int p1), (3, .int p2), (4, .int (T1.1 13)), (5, .int (T1.1 14))]) hx hb dX9_often_87 hl (by decide) rfl (fun ls hl => ?_)
      have hL89 : ∀ (n : Nat) (T : St) (x1 : Int32) (x2 : Int32) (x4 : Int32) (x5 : Int32) (x6 : Int32) (x7 : Int32) (x8 : Int32) (x9 : Int32)  (H : Heap) (locs : List Loc) (ls : Array Slot) (r : (St × Int32 × Int32 × Int32)), m_X9_often_L89 n T x1 x2 x4 x5 x6 x7 x8 x9 = some r → Wd D cy A s (wR ad cy T ++ X) H locs → lv_has ls 11 [(0, .ref (ad 0)), (1, .int x1), (2, .int x2), (4, .int x4), (5, .int x5), (6, .int x6), (7, .int x7), (8, .int x8), (9, .int x9)] → (∀ (H : Heap) (locs : List Loc) (ls : Array Slot), Wd D cy A s (wR ad cy r.1 ++ X) H locs → lv_has ls 11 [(0, .ref (ad 0)), (1, .int x1), (2, .int x2), (4, .int x4), (5, .int x5), (6, .int r.2.1), (7, .int r.2.2.1), (8, .int r.2.2.2)] → W p l e (RM 7) s m args below meth c H locs 0 0 Q (F0 m 203 ls [])) → W p l e (RM 7) s m args below meth c H locs 0 0 Q (F0 m 89 ls []) := by
        intro n
        induction n with
        | zero =>
          intro T x1 x2 x4 x5 x6 x7 x8 x9  H locs ls r h
          exact absurd (h.symm.trans (m_X9_often_L89_0 ..)) (by simp)
        | succ n ih =>
          intro T x1 x2 x4 x5 x6 x7 x8 x9  H locs ls r h hW hl kk
          rw [m_X9_often_L89_s] at h
          refine lv_iload hx hb dX9_often_89 (lv_at hl 8 rfl) ?_
          refine lv_iload_n hx hb dX9_often_91 rfl (lv_at hl 2 rfl) ?_
          refine lv_icmp_ge (tgt := 203) hx hb dX9_often_92 (by decide) (fun c20 => ?_) (fun c20 => ?_)
          · replace h := ite_t h c20
            obtain rfl := Option.some.inj h
            exact kk _ _ _ hW (lv_sub hl [0, 1, 2, 3, 4, 5, 6, 7] rfl)
          · replace h := ite_f h c20
            refine lv_aload_n hx hb dX9_often_95 rfl (lv_at hl 0 rfl) ?_
            obtain ⟨r21, hr22, h⟩ := bd_of h
            refine wd_callV1 (As := []) hC hW 0 wR_c0 rfl (c_X9_playsOn l D cy ad X n T r21 hr22) (cwV 0 hts (gu_V w_49_16 w_49_13 w_49_14 w_49_15 w_1_5) rfl rfl rfl hdX9_playsOn ⟨Nat.le_of_ble_eq_true rfl, Nat.le_of_ble_eq_true rfl⟩) rfl hl.1 rfl (Nat.le_of_ble_eq_true rfl) ⟨Nat.zero_le _, Nat.zero_le _⟩ dX9_often_96 (fun H locs hW => ?_)
            refine lv_pop hx hb dX9_often_99 rfl ?_
            refine lv_iload hx hb dX9_often_100 (lv_at hl 5 rfl) ?_
            refine lv_aload_n hx hb dX9_often_102 rfl (lv_at hl 0 rfl) ?_
            refine lv_iload_n hx hb dX9_often_103 rfl (lv_at hl 1 rfl) ?_
            obtain ⟨r23, hr24, h⟩ := bd_of h
            refine wd_callV1 (As := [.int x1]) hC hW 0 wR_c0 rfl (c_X9_isOut l D cy ad X r21.2 x1 r23 hr24) (cwV 1 hts (gu_V w_11_20 w_11_17 w_11_18 w_11_19 w_1_5) rfl rfl rfl hdX9_isOut ⟨Nat.le_of_ble_eq_true rfl, Nat.le_of_ble_eq_true rfl⟩) rfl hl.1 rfl (Nat.le_of_ble_eq_true rfl) ⟨Nat.zero_le _, Nat.zero_le _⟩ dX9_often_104 (fun H locs hW => ?_)
            obtain ⟨q26, hq27, h⟩ := bd_of h
            have hJ123 : ∀ (H : Heap) (locs : List Loc) (ls : Array Slot), Wd D cy A s (wR ad cy r21.2 ++ X) H locs → lv_has ls 11 [(0, .ref (ad 0)), (1, .int x1), (2, .int x2), (4, .int x4), (5, .int x5), (6, .int x6), (7, .int x7), (8, .int x8), (9, .int x9)] → W p l e (RM 7) s m args below meth c H locs 0 0 Q (F0 m 123 ls [.int q26, .int x6]) := by
              intro H locs ls hW hl
              obtain ⟨r28, hr29, h⟩ := bd_of h
              refine wd_callS1 (As := [.int q26]) hC hW (c_X9_flag l D cy ad X r21.2 q26 r28 hr29) (va_cwS 1 hts (gu_S w_17_18 w_17_16 w_17_17 w_1_5) rfl rfl rfl hdX9_flag ⟨Nat.le_of_ble_eq_true rfl, Nat.le_of_ble_eq_true rfl⟩) rfl hl.1 rfl (Nat.le_of_ble_eq_true rfl) ⟨Nat.zero_le _, Nat.zero_le _⟩ dX9_often_123 (fun H locs hW => ?_)
              refine lv_iadd hx hb dX9_often_126 ?_
              refine lv_istore (lv' := [(6, .int (x6 + r28)), (0, .ref (ad 0)), (1, .int x1), (2, .int x2), (4, .int x4), (5, .int x5), (7, .int x7), (8, .int x8), (9, .int x9)]) hx hb dX9_often_127 hl (by decide) rfl (fun ls hl => ?_)
              refine lv_iload hx hb dX9_often_129 (lv_at hl 6 rfl) ?_
              refine lv_aload_n hx hb dX9_often_131 rfl (lv_at hl 1 rfl) ?_
              refine lv_iload_n hx hb dX9_often_132 rfl (lv_at hl 2 rfl) ?_
              obtain ⟨r30, hr31, h⟩ := bd_of h
              refine wd_callV1 (As := [.int x1]) hC hW 0 wR_c0 rfl (c_X9_isOut l D cy ad X r21.2 x1 r30 hr31) (cwV 1 hts (gu_V w_11_20 w_11_17 w_11_18 w_11_19 w_1_5) rfl rfl rfl hdX9_isOut ⟨Nat.le_of_ble_eq_true rfl, Nat.le_of_ble_eq_true rfl⟩) rfl hl.1 rfl (Nat.le_of_ble_eq_true rfl) ⟨Nat.zero_le _, Nat.zero_le _⟩ dX9_often_133 (fun H locs hW => ?_)
              obtain ⟨r32, hr33, h⟩ := bd_of h
              refine wd_callS1 (As := [.int r30]) hC hW (c_X9_flag l D cy ad X r21.2 r30 r32 hr33) (va_cwS 1 hts (gu_S w_17_18 w_17_16 w_17_17 w_1_5) rfl rfl rfl hdX9_flag ⟨Nat.le_of_ble_eq_true rfl, Nat.le_of_ble_eq_true rfl⟩) rfl hl.1 rfl (Nat.le_of_ble_eq_true rfl) ⟨Nat.zero_le _, Nat.zero_le _⟩ dX9_often_136 (fun H locs hW => ?_)
              refine lv_iadd hx hb dX9_often_139 ?_
              refine lv_istore (lv' := [(7, .int (x7 + r32)), (6, .int (x6 + r28)), (0, .ref (ad 0)), (1, .int x1), (2, .int x2), (4, .int x4), (5, .int x5), (8, .int x8), (9, .int x9)]) hx hb dX9_often_140 hl (by decide) rfl (fun ls hl => ?_)
              refine lv_iload hx hb dX9_often_142 (lv_at hl 7 rfl) ?_
              refine lv_aload_n hx hb dX9_often_144 rfl (lv_at hl 2 rfl) ?_
              refine lv_iload_n hx hb dX9_often_145 rfl (lv_at hl 3 rfl) ?_
              obtain ⟨r34, hr35, h⟩ := bd_of h
              refine wd_callV1 (As := [.int x1]) hC hW 0 wR_c0 rfl (c_X9_sumOf l D cy ad X r21.2 x1 r34 hr35) (cwV 1 hts (gu_V w_17_22 w_17_19 w_17_20 w_17_21 w_1_5) rfl rfl rfl hdX9_sumOf ⟨Nat.le_of_ble_eq_true rfl, Nat.le_of_ble_eq_true rfl⟩) rfl hl.1 rfl (Nat.le_of_ble_eq_true rfl) ⟨Nat.zero_le _, Nat.zero_le _⟩ dX9_often_146 (fun H locs hW => ?_)
              refine lv_iadd hx hb dX9_often_149 ?_
              refine lv_istore (lv' := [(8, .int (x8 + r34)), (7, .int (x7 + r32)), (6, .int (x6 + r28)), (0, .ref (ad 0)), (1, .int x1), (2, .int x2), (4, .int x4), (5, .int x5), (9, .int x9)]) hx hb dX9_often_150 hl (by decide) rfl (fun ls hl => ?_)
              refine lv_iconst (v := 0) hx hb dX9_often_152 (by decide) ?_
              refine lv_istore (lv' := [(10, .int 0), (8, .int (x8 + r34)), (7, .int (x7 + r32)), (6, .int (x6 + r28)), (0, .ref (ad 0)), (1, .int x1), (2, .int x2), (4, .int x4), (5, .int x5), (9, .int x9)]) hx hb dX9_often_153 hl (by decide) rfl (fun ls hl => ?_)
              have hL155 : ∀ (n : Nat) (T : St) (x1 : Int32) (x2 : Int32) (x4 : Int32) (x5 : Int32) (x6 : Int32) (x7 : Int32) (x8 : Int32) (x9 : Int32) (x10 : Int32)  (H : Heap) (locs : List Loc) (ls : Array Slot) (r : (St)), m_X9_often_L155 n T x1 x2 x4 x5 x6 x7 x8 x9 x10 = some r → Wd D cy A s (wR ad cy T ++ X) H locs → lv_has ls 11 [(0, .ref (ad 0)), (1, .int x1), (2, .int x2), (4, .int x4), (5, .int x5), (6, .int x6), (7, .int x7), (8, .int x8), (9, .int x9), (10, .int x10)] → (∀ (H : Heap) (locs : List Loc) (ls : Array Slot), Wd D cy A s (wR ad cy r ++ X) H locs → lv_has ls 11 [(0, .ref (ad 0)), (1, .int x1), (2, .int x2), (4, .int x4), (5, .int x5), (6, .int x6), (7, .int x7), (8, .int x8), (9, .int x9)] → W p l e (RM 7) s m args below meth c H locs 0 0 Q (F0 m 185 ls [])) → W p l e (RM 7) s m args below meth c H locs 0 0 Q (F0 m 155 ls []) := by
                intro n
                induction n with
                | zero =>
                  intro T x1 x2 x4 x5 x6 x7 x8 x9 x10  H locs ls r h
                  exact absurd (h.symm.trans (m_X9_often_L155_0 ..)) (by simp)
                | succ n ih =>
                  intro T x1 x2 x4 x5 x6 x7 x8 x9 x10  H locs ls r h hW hl kk
                  rw [m_X9_often_L155_s] at h
                  refine lv_iload hx hb dX9_often_155 (lv_at hl 9 rfl) ?_
                  refine lv_aload_n hx hb dX9_often_157 rfl (lv_at hl 0 rfl) ?_
                  refine wd_get hC i9 hW 0 wR_c0 rfl 11 (Nat.le_of_ble_eq_true rfl) f32 rfl rfl dX9_often_158 ?_
                  refine wd_alen hC hW 8 0 wR_c8 rfl (v := 63) rfl dX9_often_161 ?_
                  refine lv_icmp_ge (tgt := 185) hx hb dX9_often_162 (by decide) (fun c38 => ?_) (fun c38 => ?_)
                  · replace h := ite_t h c38
                    obtain rfl := Option.some.inj h
                    exact kk _ _ _ hW (lv_sub hl [0, 1, 2, 3, 4, 5, 6, 7, 8] rfl)
                  · replace h := ite_f h c38
                    refine lv_aload_n hx hb dX9_often_165 rfl (lv_at hl 0 rfl) ?_
                    refine wd_get hC i9 hW 0 wR_c0 rfl 11 (Nat.le_of_ble_eq_true rfl) f32 rfl rfl dX9_often_166 ?_
                    refine lv_iload hx hb dX9_often_169 (lv_at hl 9 rfl) ?_
                    refine lv_aload_n hx hb dX9_often_171 rfl (lv_at hl 0 rfl) ?_
                    refine wd_get hC i9 hW 0 wR_c0 rfl 12 (Nat.le_of_ble_eq_true rfl) f35 rfl rfl dX9_often_172 ?_
                    refine lv_iload hx hb dX9_often_175 (lv_at hl 9 rfl) ?_
                    obtain ⟨hi39, h⟩ := ck_of h
                    refine wd_iald hC hW 9 wR_c9 hi39 dX9_often_177 ?_
                    obtain ⟨hi40, h⟩ := ck_of h
                    refine wd_iast hC hW 8 wR_c8 hi40 wR_t8 dX9_often_178 (fun H locs hW => ?_)
                    obtain ⟨T41, e42, h⟩ := nm_of h
                    replace hW := wq_T e42 hW
                    refine lv_iinc (v := x10 + 1) (lv' := [(10, .int (x10 + 1)), (0, .ref (ad 0)), (1, .int x1), (2, .int x2), (4, .int x4), (5, .int x5), (6, .int x6), (7, .int x7), (8, .int x8), (9, .int x9)]) hx hb dX9_often_179 hl (k := 9) rfl rfl (by decide) rfl (fun ls hl => ?_)
                    refine lv_goto (tgt := 155) hx hb dX9_often_182 (by decide) ?_
                    exact ih T41 x1 x2 x4 x5 x6 x7 x8 x9 (x10 + 1) _ _ _ r h hW (lv_sub hl [1, 2, 3, 4, 5, 6, 7, 8, 9, 0] rfl) kk
              obtain ⟨q36, hq37, h⟩ := bd_of h
              refine hL155 n r21.2 x1 x2 x4 x5 (x6 + r28) (x7 + r32) (x8 + r34) x9 0  _ _ _ q36 hq37 hW (lv_sub hl [4, 5, 6, 7, 8, 3, 2, 1, 9, 0] rfl) (fun H locs ls hW hl => ?_)
              refine lv_aload_n hx hb dX9_often_185 rfl (lv_at hl 0 rfl) ?_
              refine lv_iload hx hb dX9_often_186 (lv_at hl 3 rfl) ?_
              refine wd_put hC i9 tyX9_ok nmX9 hW 0 wR_c0 rfl 13 (Nat.le_of_ble_eq_true rfl) f131 rfl rfl rfl rfl (Nat.le_of_ble_eq_true rfl) wR_s0_13 dX9_often_188 (fun H locs hW => ?_)
              obtain ⟨T43, e44, h⟩ := nm_of h
              replace hW := wq_T e44 hW
              refine lv_aload_n hx hb dX9_often_191 rfl (lv_at hl 0 rfl) ?_
              refine lv_iload hx hb dX9_often_192 (lv_at hl 4 rfl) ?_
              refine wd_put hC i9 tyX9_ok nmX9 hW 0 wR_c0 rfl 14 (Nat.le_of_ble_eq_true rfl) f134 rfl rfl rfl rfl (Nat.le_of_ble_eq_true rfl) wR_s0_14 dX9_often_194 (fun H locs hW => ?_)
              obtain ⟨T45, e46, h⟩ := nm_of h
              replace hW := wq_T e46 hW
              refine lv_iinc (v := x9 + 1) (lv' := [(9, .int (x9 + 1)), (0, .ref (ad 0)), (1, .int x1), (2, .int x2), (4, .int x4), (5, .int x5), (6, .int (x6 + r28)), (7, .int (x7 + r32)), (8, .int (x8 + r34))]) hx hb dX9_often_197 hl (k := 8) rfl rfl (by decide) rfl (fun ls hl => ?_)
              refine lv_goto (tgt := 89) hx hb dX9_often_200 (by decide) ?_
              exact ih T45 x1 x2 x4 x5 (x6 + r28) (x7 + r32) (x8 + r34) (x9 + 1) _ _ _ r h hW (lv_sub hl [1, 2, 3, 4, 5, 6, 7, 8, 0] rfl) kk
            replace h := hq27
            refine lv_if_ne (tgt := 122) hx hb dX9_often_107 (by decide) (fun c25 => ?_) (fun c25 => ?_)
            · replace h := ite_f h c25
              refine lv_iconst (v := 0) hx hb dX9_often_122 (by decide) ?_
              obtain rfl := Option.some.inj h
              exact hJ123 _ _ _ hW (lv_sub hl [0, 1, 2, 3, 4, 5, 6, 7, 8] rfl)
            · replace h := ite_t h c25
              refine lv_aload_n hx hb dX9_often_110 rfl (lv_at hl 0 rfl) ?_
              refine lv_iload_n hx hb dX9_often_111 rfl (lv_at hl 1 rfl) ?_
              obtain ⟨r47, hr48, h⟩ := bd_of h
              refine wd_callV1 (As := [.int x1]) hC hW 0 wR_c0 rfl (c_X9_aheadOf l D cy ad X n r21.2 x1 r47 hr48) (cwV 1 hts (gu_V w_23_23 w_23_20 w_23_21 w_23_22 w_1_5) rfl rfl rfl hdX9_aheadOf ⟨Nat.le_of_ble_eq_true rfl, Nat.le_of_ble_eq_true rfl⟩) rfl hl.1 rfl (Nat.le_of_ble_eq_true rfl) ⟨Nat.zero_le _, Nat.zero_le _⟩ dX9_often_112 (fun H locs hW => ?_)
              refine lv_if_ne (tgt := 122) hx hb dX9_often_115 (by decide) (fun c49 => ?_) (fun c49 => ?_)
              · replace h := ite_f h c49
                refine lv_iconst (v := 0) hx hb dX9_often_122 (by decide) ?_
                obtain rfl := Option.some.inj h
                exact hJ123 _ _ _ hW (lv_sub hl [0, 1, 2, 3, 4, 5, 6, 7, 8] rfl)
              · replace h := ite_t h c49
                refine lv_iconst (v := 1) hx hb dX9_often_118 (by decide) ?_
                refine lv_goto (tgt := 123) hx hb dX9_often_119 (by decide) ?_
                obtain rfl := Option.some.inj h
                exact hJ123 _ _ _ hW (lv_sub hl [0, 1, 2, 3, 4, 5, 6, 7, 8] rfl)
      obtain ⟨q18, hq19, h⟩ := bd_of h
      refine hL89 n T16 p0 p1 (T1.1 13) (T1.1 14) 0 0 0 0  _ _ _ q18 hq19 hW (lv_sub hl [4, 5, 6, 8, 9, 3, 2, 1, 0] rfl) (fun H locs ls hW hl => ?_)
      refine lv_aload_n hx hb dX9_often_203 rfl (lv_at hl 0 rfl) ?_
      refine lv_iconst (v := 0) hx hb dX9_often_204 (by decide) ?_
      refine wd_put hC i9 tyX9_ok nmX9 hW 0 wR_c0 rfl 1 (Nat.le_of_ble_eq_true rfl) f81 rfl rfl rfl rfl (Nat.le_of_ble_eq_true rfl) wR_s0_1 dX9_often_205 (fun H locs hW => ?_)
      obtain ⟨T50, e51, h⟩ := nm_of h
      replace hW := wq_T e51 hW
      refine lv_aload_n hx hb dX9_often_208 rfl (lv_at hl 0 rfl) ?_
      refine lv_iload hx hb dX9_often_209 (lv_at hl 6 rfl) ?_
      refine lv_i2l (v := q18.2.2.1.toInt64) hx hb dX9_often_211 rfl ?_
      obtain ⟨r52, hr53, h⟩ := bd_of h
      refine wd_callV0 (As := [.long q18.2.2.1.toInt64]) hC hW 0 wR_c0 rfl (c_X9_notes l D cy ad X T50 q18.2.2.1.toInt64 r52 hr53) (cwV 1 hts (gu_V w_19_14 w_19_11 w_19_12 w_19_13 w_1_5) rfl rfl rfl hdX9_notes ⟨Nat.le_of_ble_eq_true rfl, Nat.le_of_ble_eq_true rfl⟩) rfl hl.1 rfl (Nat.le_of_ble_eq_true rfl) ⟨Nat.zero_le _, Nat.zero_le _⟩ dX9_often_212 (fun H locs hW => ?_)
      refine lv_aload_n hx hb dX9_often_215 rfl (lv_at hl 0 rfl) ?_
      refine lv_iload hx hb dX9_often_216 (lv_at hl 7 rfl) ?_
      refine lv_i2l (v := q18.2.2.2.toInt64) hx hb dX9_often_218 rfl ?_
      obtain ⟨r54, hr55, h⟩ := bd_of h
      refine wd_callV0 (As := [.long q18.2.2.2.toInt64]) hC hW 0 wR_c0 rfl (c_X9_notes l D cy ad X r52 q18.2.2.2.toInt64 r54 hr55) (cwV 1 hts (gu_V w_19_14 w_19_11 w_19_12 w_19_13 w_1_5) rfl rfl rfl hdX9_notes ⟨Nat.le_of_ble_eq_true rfl, Nat.le_of_ble_eq_true rfl⟩) rfl hl.1 rfl (Nat.le_of_ble_eq_true rfl) ⟨Nat.zero_le _, Nat.zero_le _⟩ dX9_often_219 (fun H locs hW => ?_)
      refine lv_iload hx hb dX9_often_222 (lv_at hl 5 rfl) ?_
      obtain rfl := Option.some.inj h
      exact wd_iret hA hQ hC hr hk hW dX9_often_224
    · replace h := ite_t h c8
      refine lv_iconst (v := (-1)) hx hb dX9_often_25 (by decide) ?_
      obtain rfl := Option.some.inj h
      exact wd_iret hA hQ hC hr hk hW dX9_often_26
def m_X9_outs_L4 : Nat → St → Int32 → Int32 → Option (Int32)
  | 0, _, _, _ => none
  | n + 1, T, x1, x2 =>
    if (T.1 3) ≤ x2 then (some x1) else ((m_X9_of T x2 6).bind (fun r4 => m_X9_outs_L4 n T (x1 ||| (r4 <<< (x2 &&& 31))) (x2 + 1)))
theorem m_X9_outs_L4_0 (T : St) (x1 : Int32) (x2 : Int32) : m_X9_outs_L4 0 T x1 x2 = none := rfl
theorem m_X9_outs_L4_s {n : Nat} {T : St} {x1 : Int32} {x2 : Int32} : m_X9_outs_L4 (n + 1) T x1 x2 =
    (if (T.1 3) ≤ x2 then (some x1) else ((m_X9_of T x2 6).bind (fun r4 => m_X9_outs_L4 n T (x1 ||| (r4 <<< (x2 &&& 31))) (x2 + 1)))) := rfl
def m_X9_outs (n : Nat) (T : St) : Option (Int32) :=
  (m_X9_outs_L4 n T 0 0).bind (fun q1 => some q1)
set_option maxHeartbeats 4000000 in
set_option maxRecDepth 100000 in
theorem c_X9_outs (l : Launch) (D : va_G) (cy : Nat → ClassId) (ad : Nat → Nat) (X : va_W) (n : Nat) (T : St) (r : (Int32)) (h : m_X9_outs n T = some r) : CT l yX9_outs (wu yX9_outs cX9_outs 3 (some .int)) 1 D cy [.ref (ad 0)] (wR ad cy T ++ X) (some (.int r)) (wR ad cy T ++ X) := by
  refine CT.mk (cc := cX9_outs) (maxL := 3) (ret := (some .int)) (own := RX9) (by decide) rfl rfl (Nat.le_of_ble_eq_true rfl) ?_
  intro p e s m args below meth c ls A Q hA hQ hC hr hk hW hl
  have hx := hC.1
  have hb := hC.2.1
  have hown := hC.2.2.2.1
  have hts := hC.2.2.2.2
  have hl : lv_has ls 3 [(0, .ref (ad 0))] := hl
  have f84 := hts _ (wu_in w_9_13)
  have i9 := (fun w h => wu_in (inc_9 w h) : ∀ w ∈ u_ws RX9 TX9 40, w ∈ (wu yX9_outs cX9_outs 3 (some .int)))
  unfold m_X9_outs at h
  refine lv_iconst (v := 0) hx hb dX9_outs_0 (by decide) ?_
  refine lv_istore_n (lv' := [(1, .int 0), (0, .ref (ad 0))]) hx hb dX9_outs_1 rfl hl (by decide) rfl (fun ls hl => ?_)
  refine lv_iconst (v := 0) hx hb dX9_outs_2 (by decide) ?_
  refine lv_istore_n (lv' := [(2, .int 0), (1, .int 0), (0, .ref (ad 0))]) hx hb dX9_outs_3 rfl hl (by decide) rfl (fun ls hl => ?_)
  have hL4 : ∀ (n : Nat) (x1 : Int32) (x2 : Int32)  (H : Heap) (locs : List Loc) (ls : Array Slot) (r : (Int32)), m_X9_outs_L4 n T x1 x2 = some r → Wd D cy A s (wR ad cy T ++ X) H locs → lv_has ls 3 [(0, .ref (ad 0)), (1, .int x1), (2, .int x2)] → (∀ (H : Heap) (locs : List Loc) (ls : Array Slot), Wd D cy A s (wR ad cy T ++ X) H locs → lv_has ls 3 [(0, .ref (ad 0)), (1, .int r)] → W p l e (RM 1) s m args below meth c H locs 0 0 Q (F0 m 30 ls [])) → W p l e (RM 1) s m args below meth c H locs 0 0 Q (F0 m 4 ls []) := by
    intro n
    induction n with
    | zero =>
      intro x1 x2  H locs ls r h
      exact absurd (h.symm.trans (m_X9_outs_L4_0 ..)) (by simp)
    | succ n ih =>
      intro x1 x2  H locs ls r h hW hl kk
      rw [m_X9_outs_L4_s] at h
      refine lv_iload_n hx hb dX9_outs_4 rfl (lv_at hl 2 rfl) ?_
      refine lv_aload_n hx hb dX9_outs_5 rfl (lv_at hl 0 rfl) ?_
      refine wd_get hC i9 hW 0 wR_c0 rfl 3 (Nat.le_of_ble_eq_true rfl) f84 rfl rfl dX9_outs_6 ?_
      refine lv_icmp_ge (tgt := 30) hx hb dX9_outs_9 (by decide) (fun c3 => ?_) (fun c3 => ?_)
      · replace h := ite_t h c3
        obtain rfl := Option.some.inj h
        exact kk _ _ _ hW (lv_sub hl [0, 1] rfl)
      · replace h := ite_f h c3
        refine lv_iload_n hx hb dX9_outs_12 rfl (lv_at hl 1 rfl) ?_
        refine lv_aload_n hx hb dX9_outs_13 rfl (lv_at hl 0 rfl) ?_
        refine lv_iload_n hx hb dX9_outs_14 rfl (lv_at hl 2 rfl) ?_
        refine lv_bipush (v := 6) hx hb dX9_outs_15 (by decide) ?_
        obtain ⟨r4, hr5, h⟩ := bd_of h
        refine wd_callV1 (As := [.int x2, .int 6]) hC hW 0 wR_c0 rfl (c_X9_of l D cy ad X T x2 6 r4 hr5) (cwV 2 hts (gu_V w_12_0 w_11_21 w_11_22 w_11_23 w_1_5) rfl rfl rfl hdX9_of ⟨Nat.le_of_ble_eq_true rfl, Nat.le_of_ble_eq_true rfl⟩) rfl hl.1 rfl (Nat.le_of_ble_eq_true rfl) ⟨Nat.zero_le _, Nat.zero_le _⟩ dX9_outs_17 (fun H locs hW => ?_)
        refine lv_iload_n hx hb dX9_outs_20 rfl (lv_at hl 2 rfl) ?_
        refine lv_ishl hx hb dX9_outs_21 ?_
        refine lv_ior hx hb dX9_outs_22 ?_
        refine lv_istore_n (lv' := [(1, .int (x1 ||| (r4 <<< (x2 &&& 31)))), (0, .ref (ad 0)), (2, .int x2)]) hx hb dX9_outs_23 rfl hl (by decide) rfl (fun ls hl => ?_)
        refine lv_iinc (v := x2 + 1) (lv' := [(2, .int (x2 + 1)), (1, .int (x1 ||| (r4 <<< (x2 &&& 31)))), (0, .ref (ad 0))]) hx hb dX9_outs_24 hl (k := 2) rfl rfl (by decide) rfl (fun ls hl => ?_)
        refine lv_goto (tgt := 4) hx hb dX9_outs_27 (by decide) ?_
        exact ih (x1 ||| (r4 <<< (x2 &&& 31))) (x2 + 1) _ _ _ r h hW (lv_sub hl [2, 1, 0] rfl) kk
  obtain ⟨q1, hq2, h⟩ := bd_of h
  refine hL4 n 0 0  _ _ _ q1 hq2 hW (lv_sub hl [2, 1, 0] rfl) (fun H locs ls hW hl => ?_)
  refine lv_iload_n hx hb dX9_outs_30 rfl (lv_at hl 1 rfl) ?_
  obtain rfl := Option.some.inj h
  exact wd_iret hA hQ hC hr hk hW dX9_outs_31
def m_X9_count (n : Nat) (T : St) (p0 : Int32) : Option (Int32 × St) :=
  nm (sI T 0 0) (fun T1 => if p0 = 0 then (some (T1.1 3, T1)) else (if p0 = 1 then (ck 0 63 (some (T1.2.1 11 ((0 : Int32).toNatClampNeg), T1))) else (if p0 = 2 then (ck 1 63 (some (T1.2.1 11 ((1 : Int32).toNatClampNeg), T1))) else (if p0 = 3 then (ck 2 63 (some (T1.2.1 11 ((2 : Int32).toNatClampNeg), T1))) else (if p0 = 4 then (some (T1.1 13, T1)) else (if p0 = 5 then (some (T1.1 14, T1)) else (if p0 = 6 then (some (T1.1 10, T1)) else (if p0 = 7 then (some (T1.1 1, T1)) else (if p0 = 8 then (some (T1.1 18, T1)) else (if p0 = 9 then ((m_X9_outs n T1).bind (fun r16 => some (r16, T1))) else (some ((-1), T1))))))))))))
set_option maxHeartbeats 4000000 in
set_option maxRecDepth 100000 in
theorem c_X9_count (l : Launch) (D : va_G) (cy : Nat → ClassId) (ad : Nat → Nat) (X : va_W) (n : Nat) (T : St) (p0 : Int32) (r : (Int32 × St)) (h : m_X9_count n T p0 = some r) : CT l yX9_count (wu yX9_count cX9_count 2 (some .int)) 2 D cy [.ref (ad 0), .int p0] (wR ad cy T ++ X) (some (.int r.1)) (wR ad cy r.2 ++ X) := by
  refine CT.mk (cc := cX9_count) (maxL := 2) (ret := (some .int)) (own := RX9) (by decide) rfl rfl (Nat.le_of_ble_eq_true rfl) ?_
  intro p e s m args below meth c ls A Q hA hQ hC hr hk hW hl
  have hx := hC.1
  have hb := hC.2.1
  have hown := hC.2.2.2.1
  have hts := hC.2.2.2.2
  have hl : lv_has ls 2 [(0, .ref (ad 0)), (1, .int p0)] := hl
  have f77 := hts _ (wu_in w_6_14)
  have i9 := (fun w h => wu_in (inc_9 w h) : ∀ w ∈ u_ws RX9 TX9 40, w ∈ (wu yX9_count cX9_count 2 (some .int)))
  have f84 := hts _ (wu_in w_9_13)
  have f32 := hts _ (wu_in w_5_10)
  have f131 := hts _ (wu_in w_11_7)
  have f134 := hts _ (wu_in w_11_8)
  have f97 := hts _ (wu_in w_14_19)
  have f81 := hts _ (wu_in w_19_2)
  have f184 := hts _ (wu_in w_6_15)
  unfold m_X9_count at h
  refine lv_aload_n hx hb dX9_count_0 rfl (lv_at hl 0 rfl) ?_
  refine lv_iconst (v := 0) hx hb dX9_count_1 (by decide) ?_
  refine wd_put hC i9 tyX9_ok nmX9 hW 0 wR_c0 rfl 0 (Nat.le_of_ble_eq_true rfl) f77 rfl rfl rfl rfl (Nat.le_of_ble_eq_true rfl) wR_s0_0 dX9_count_2 (fun H locs hW => ?_)
  obtain ⟨T1, e2, h⟩ := nm_of h
  replace hW := wq_T e2 hW
  refine lv_iload_n hx hb dX9_count_5 rfl (lv_at hl 1 rfl) ?_
  by_cases c3 : p0 = 0
  · replace h := ite_t h c3
    refine lv_tableIn (tgt := 60) hx hb dX9_count_6 (by rw [c3]; decide) (by rw [c3]; decide) (by rw [c3]; rfl) (by decide) ?_
    refine lv_aload_n hx hb dX9_count_60 rfl (lv_at hl 0 rfl) ?_
    refine wd_get hC i9 hW 0 wR_c0 rfl 3 (Nat.le_of_ble_eq_true rfl) f84 rfl rfl dX9_count_61 ?_
    obtain rfl := Option.some.inj h
    exact wd_iret hA hQ hC hr hk hW dX9_count_64
  replace h := ite_f h c3
  by_cases c4 : p0 = 1
  · replace h := ite_t h c4
    refine lv_tableIn (tgt := 65) hx hb dX9_count_6 (by rw [c4]; decide) (by rw [c4]; decide) (by rw [c4]; rfl) (by decide) ?_
    refine lv_aload_n hx hb dX9_count_65 rfl (lv_at hl 0 rfl) ?_
    refine wd_get hC i9 hW 0 wR_c0 rfl 11 (Nat.le_of_ble_eq_true rfl) f32 rfl rfl dX9_count_66 ?_
    refine lv_iconst (v := 0) hx hb dX9_count_69 (by decide) ?_
    obtain ⟨hi5, h⟩ := ck_of h
    refine wd_iald hC hW 8 wR_c8 hi5 dX9_count_70 ?_
    obtain rfl := Option.some.inj h
    exact wd_iret hA hQ hC hr hk hW dX9_count_71
  replace h := ite_f h c4
  by_cases c6 : p0 = 2
  · replace h := ite_t h c6
    refine lv_tableIn (tgt := 72) hx hb dX9_count_6 (by rw [c6]; decide) (by rw [c6]; decide) (by rw [c6]; rfl) (by decide) ?_
    refine lv_aload_n hx hb dX9_count_72 rfl (lv_at hl 0 rfl) ?_
    refine wd_get hC i9 hW 0 wR_c0 rfl 11 (Nat.le_of_ble_eq_true rfl) f32 rfl rfl dX9_count_73 ?_
    refine lv_iconst (v := 1) hx hb dX9_count_76 (by decide) ?_
    obtain ⟨hi7, h⟩ := ck_of h
    refine wd_iald hC hW 8 wR_c8 hi7 dX9_count_77 ?_
    obtain rfl := Option.some.inj h
    exact wd_iret hA hQ hC hr hk hW dX9_count_78
  replace h := ite_f h c6
  by_cases c8 : p0 = 3
  · replace h := ite_t h c8
    refine lv_tableIn (tgt := 79) hx hb dX9_count_6 (by rw [c8]; decide) (by rw [c8]; decide) (by rw [c8]; rfl) (by decide) ?_
    refine lv_aload_n hx hb dX9_count_79 rfl (lv_at hl 0 rfl) ?_
    refine wd_get hC i9 hW 0 wR_c0 rfl 11 (Nat.le_of_ble_eq_true rfl) f32 rfl rfl dX9_count_80 ?_
    refine lv_iconst (v := 2) hx hb dX9_count_83 (by decide) ?_
    obtain ⟨hi9, h⟩ := ck_of h
    refine wd_iald hC hW 8 wR_c8 hi9 dX9_count_84 ?_
    obtain rfl := Option.some.inj h
    exact wd_iret hA hQ hC hr hk hW dX9_count_85
  replace h := ite_f h c8
  by_cases c10 : p0 = 4
  · replace h := ite_t h c10
    refine lv_tableIn (tgt := 86) hx hb dX9_count_6 (by rw [c10]; decide) (by rw [c10]; decide) (by rw [c10]; rfl) (by decide) ?_
    refine lv_aload_n hx hb dX9_count_86 rfl (lv_at hl 0 rfl) ?_
    refine wd_get hC i9 hW 0 wR_c0 rfl 13 (Nat.le_of_ble_eq_true rfl) f131 rfl rfl dX9_count_87 ?_
    obtain rfl := Option.some.inj h
    exact wd_iret hA hQ hC hr hk hW dX9_count_90
  replace h := ite_f h c10
  by_cases c11 : p0 = 5
  · replace h := ite_t h c11
    refine lv_tableIn (tgt := 91) hx hb dX9_count_6 (by rw [c11]; decide) (by rw [c11]; decide) (by rw [c11]; rfl) (by decide) ?_
    refine lv_aload_n hx hb dX9_count_91 rfl (lv_at hl 0 rfl) ?_
    refine wd_get hC i9 hW 0 wR_c0 rfl 14 (Nat.le_of_ble_eq_true rfl) f134 rfl rfl dX9_count_92 ?_
    obtain rfl := Option.some.inj h
    exact wd_iret hA hQ hC hr hk hW dX9_count_95
  replace h := ite_f h c11
  by_cases c12 : p0 = 6
  · replace h := ite_t h c12
    refine lv_tableIn (tgt := 96) hx hb dX9_count_6 (by rw [c12]; decide) (by rw [c12]; decide) (by rw [c12]; rfl) (by decide) ?_
    refine lv_aload_n hx hb dX9_count_96 rfl (lv_at hl 0 rfl) ?_
    refine wd_get hC i9 hW 0 wR_c0 rfl 10 (Nat.le_of_ble_eq_true rfl) f97 rfl rfl dX9_count_97 ?_
    obtain rfl := Option.some.inj h
    exact wd_iret hA hQ hC hr hk hW dX9_count_100
  replace h := ite_f h c12
  by_cases c13 : p0 = 7
  · replace h := ite_t h c13
    refine lv_tableIn (tgt := 101) hx hb dX9_count_6 (by rw [c13]; decide) (by rw [c13]; decide) (by rw [c13]; rfl) (by decide) ?_
    refine lv_aload_n hx hb dX9_count_101 rfl (lv_at hl 0 rfl) ?_
    refine wd_get hC i9 hW 0 wR_c0 rfl 1 (Nat.le_of_ble_eq_true rfl) f81 rfl rfl dX9_count_102 ?_
    obtain rfl := Option.some.inj h
    exact wd_iret hA hQ hC hr hk hW dX9_count_105
  replace h := ite_f h c13
  by_cases c14 : p0 = 8
  · replace h := ite_t h c14
    refine lv_tableIn (tgt := 106) hx hb dX9_count_6 (by rw [c14]; decide) (by rw [c14]; decide) (by rw [c14]; rfl) (by decide) ?_
    refine lv_aload_n hx hb dX9_count_106 rfl (lv_at hl 0 rfl) ?_
    refine wd_get hC i9 hW 0 wR_c0 rfl 18 (Nat.le_of_ble_eq_true rfl) f184 rfl rfl dX9_count_107 ?_
    obtain rfl := Option.some.inj h
    exact wd_iret hA hQ hC hr hk hW dX9_count_110
  replace h := ite_f h c14
  by_cases c15 : p0 = 9
  · replace h := ite_t h c15
    refine lv_tableIn (tgt := 111) hx hb dX9_count_6 (by rw [c15]; decide) (by rw [c15]; decide) (by rw [c15]; rfl) (by decide) ?_
    refine lv_aload_n hx hb dX9_count_111 rfl (lv_at hl 0 rfl) ?_
    obtain ⟨r16, hr17, h⟩ := bd_of h
    refine wd_callV1 (As := []) hC hW 0 wR_c0 rfl (c_X9_outs l D cy ad X n T1 r16 hr17) (cwV 0 hts (gu_V w_51_4 w_51_1 w_51_2 w_51_3 w_1_5) rfl rfl rfl hdX9_outs ⟨Nat.le_of_ble_eq_true rfl, Nat.le_of_ble_eq_true rfl⟩) rfl hl.1 rfl (Nat.le_of_ble_eq_true rfl) ⟨Nat.zero_le _, Nat.zero_le _⟩ dX9_count_112 (fun H locs hW => ?_)
    obtain rfl := Option.some.inj h
    exact wd_iret hA hQ hC hr hk hW dX9_count_115
  replace h := ite_f h c15
  have hsw : p0.toInt < 0 ∨ 9 < p0.toInt := by
    have : ¬ p0.toInt = 0 := lv_neT c3 rfl
    have : ¬ p0.toInt = 1 := lv_neT c4 rfl
    have : ¬ p0.toInt = 2 := lv_neT c6 rfl
    have : ¬ p0.toInt = 3 := lv_neT c8 rfl
    have : ¬ p0.toInt = 4 := lv_neT c10 rfl
    have : ¬ p0.toInt = 5 := lv_neT c11 rfl
    have : ¬ p0.toInt = 6 := lv_neT c12 rfl
    have : ¬ p0.toInt = 7 := lv_neT c13 rfl
    have : ¬ p0.toInt = 8 := lv_neT c14 rfl
    have : ¬ p0.toInt = 9 := lv_neT c15 rfl
    omega
  refine lv_tableOut (tgt := 116) hx hb dX9_count_6 hsw (by decide) ?_
  refine lv_iconst (v := (-1)) hx hb dX9_count_116 (by decide) ?_
  obtain rfl := Option.some.inj h
  exact wd_iret hA hQ hC hr hk hW dX9_count_117
def m_X9_row (T : St) (p0 : Int32) : Option (Int64 × St) :=
  (m_X9_in T p0.toInt64 0 (((T.1 1) - 1).toInt64)).bind (fun r1 => ((if r1 = 0 then (some 1) else (some 0) : Option (Int32))).bind (fun q4 => (m_X9_flag T q4).bind (fun r6 => nm (sI T 0 r6) (fun T8 => if (T8.1 0) = 1 then (some (0, T8)) else (ck p0 64 (some (T8.2.2.1 2 p0.toNatClampNeg, T8)))))))
set_option maxHeartbeats 4000000 in
set_option maxRecDepth 100000 in
theorem c_X9_row (l : Launch) (D : va_G) (cy : Nat → ClassId) (ad : Nat → Nat) (X : va_W) (T : St) (p0 : Int32) (r : (Int64 × St)) (h : m_X9_row T p0 = some r) : CT l yX9_row (wu yX9_row cX9_row 2 (some .long)) 1 D cy [.ref (ad 0), .int p0] (wR ad cy T ++ X) (some (.long r.1)) (wR ad cy r.2 ++ X) := by
  refine CT.mk (cc := cX9_row) (maxL := 2) (ret := (some .long)) (own := RX9) (by decide) rfl rfl (Nat.le_of_ble_eq_true rfl) ?_
  intro p e s m args below meth c ls A Q hA hQ hC hr hk hW hl
  have hx := hC.1
  have hb := hC.2.1
  have hown := hC.2.2.2.1
  have hts := hC.2.2.2.2
  have hl : lv_has ls 2 [(0, .ref (ad 0)), (1, .int p0)] := hl
  have f81 := hts _ (wu_in w_19_2)
  have i9 := (fun w h => wu_in (inc_9 w h) : ∀ w ∈ u_ws RX9 TX9 40, w ∈ (wu yX9_row cX9_row 2 (some .long)))
  have f77 := hts _ (wu_in w_6_14)
  have f7 := hts _ (wu_in w_5_3)
  unfold m_X9_row at h
  refine lv_aload_n hx hb dX9_row_0 rfl (lv_at hl 0 rfl) ?_
  refine lv_iload_n hx hb dX9_row_1 rfl (lv_at hl 1 rfl) ?_
  refine lv_i2l (v := p0.toInt64) hx hb dX9_row_2 rfl ?_
  refine lv_lconst (v := 0) hx hb dX9_row_3 (by decide) ?_
  refine lv_aload_n hx hb dX9_row_4 rfl (lv_at hl 0 rfl) ?_
  refine wd_get hC i9 hW 0 wR_c0 rfl 1 (Nat.le_of_ble_eq_true rfl) f81 rfl rfl dX9_row_5 ?_
  refine lv_iconst (v := 1) hx hb dX9_row_8 (by decide) ?_
  refine lv_isub hx hb dX9_row_9 ?_
  refine lv_i2l (v := ((T.1 1) - 1).toInt64) hx hb dX9_row_10 rfl ?_
  obtain ⟨r1, hr2, h⟩ := bd_of h
  refine wd_callS1 (As := [.long p0.toInt64, .long 0, .long (((T.1 1) - 1).toInt64)]) hC hW (c_X9_in l D cy ad X T p0.toInt64 0 (((T.1 1) - 1).toInt64) r1 hr2) (va_cwS 3 hts (gu_S w_7_6 w_7_4 w_7_5 w_1_5) rfl rfl rfl hdX9_in ⟨Nat.le_of_ble_eq_true rfl, Nat.le_of_ble_eq_true rfl⟩) rfl hl.1 rfl (Nat.le_of_ble_eq_true rfl) ⟨Nat.zero_le _, Nat.zero_le _⟩ dX9_row_11 (fun H locs hW => ?_)
  obtain ⟨q4, hq5, h⟩ := bd_of h
  have hJ22 : ∀ (H : Heap) (locs : List Loc) (ls : Array Slot), Wd D cy A s (wR ad cy T ++ X) H locs → lv_has ls 2 [(0, .ref (ad 0)), (1, .int p0)] → W p l e (RM 1) s m args below meth c H locs 0 0 Q (F0 m 22 ls [.int q4, .ref (ad 0)]) := by
    intro H locs ls hW hl
    obtain ⟨r6, hr7, h⟩ := bd_of h
    refine wd_callS1 (As := [.int q4]) hC hW (c_X9_flag l D cy ad X T q4 r6 hr7) (va_cwS 1 hts (gu_S w_17_18 w_17_16 w_17_17 w_1_5) rfl rfl rfl hdX9_flag ⟨Nat.le_of_ble_eq_true rfl, Nat.le_of_ble_eq_true rfl⟩) rfl hl.1 rfl (Nat.le_of_ble_eq_true rfl) ⟨Nat.zero_le _, Nat.zero_le _⟩ dX9_row_22 (fun H locs hW => ?_)
    refine wd_put hC i9 tyX9_ok nmX9 hW 0 wR_c0 rfl 0 (Nat.le_of_ble_eq_true rfl) f77 rfl rfl rfl rfl (Nat.le_of_ble_eq_true rfl) wR_s0_0 dX9_row_25 (fun H locs hW => ?_)
    obtain ⟨T8, e9, h⟩ := nm_of h
    replace hW := wq_T e9 hW
    refine lv_aload_n hx hb dX9_row_28 rfl (lv_at hl 0 rfl) ?_
    refine wd_get hC i9 hW 0 wR_c0 rfl 0 (Nat.le_of_ble_eq_true rfl) f77 rfl rfl dX9_row_29 ?_
    refine lv_iconst (v := 1) hx hb dX9_row_32 (by decide) ?_
    refine lv_icmp_ne (tgt := 40) hx hb dX9_row_33 (by decide) (fun c10 => ?_) (fun c10 => ?_)
    · replace h := ite_f h c10
      refine lv_aload_n hx hb dX9_row_40 rfl (lv_at hl 0 rfl) ?_
      refine wd_get hC i9 hW 0 wR_c0 rfl 2 (Nat.le_of_ble_eq_true rfl) f7 rfl rfl dX9_row_41 ?_
      refine lv_iload_n hx hb dX9_row_44 rfl (lv_at hl 1 rfl) ?_
      obtain ⟨hi11, h⟩ := ck_of h
      refine wd_lald hC hW 1 wR_c1 hi11 dX9_row_45 ?_
      obtain rfl := Option.some.inj h
      exact wd_lret hA hQ hC hr hk hW dX9_row_46
    · replace h := ite_t h c10
      refine lv_lconst (v := 0) hx hb dX9_row_36 (by decide) ?_
      refine lv_goto (tgt := 46) hx hb dX9_row_37 (by decide) ?_
      obtain rfl := Option.some.inj h
      exact wd_lret hA hQ hC hr hk hW dX9_row_46
  replace h := hq5
  refine lv_if_ne (tgt := 21) hx hb dX9_row_14 (by decide) (fun c3 => ?_) (fun c3 => ?_)
  · replace h := ite_f h c3
    refine lv_iconst (v := 0) hx hb dX9_row_21 (by decide) ?_
    obtain rfl := Option.some.inj h
    exact hJ22 _ _ _ hW (lv_sub hl [0, 1] rfl)
  · replace h := ite_t h c3
    refine lv_iconst (v := 1) hx hb dX9_row_17 (by decide) ?_
    refine lv_goto (tgt := 22) hx hb dX9_row_18 (by decide) ?_
    obtain rfl := Option.some.inj h
    exact hJ22 _ _ _ hW (lv_sub hl [0, 1] rfl)
def m_X9_plannedBehind (pl : St → Int32 → Int32 → Int32 → Int32 → Int32 → Int32 → Int32 → Option Int32) (T : St) (p0 : Int32) (p1 : Int32) (p2 : Int32) (p3 : Int32) : Option (Int32) :=
  if p2 = 0 then (ck 0 122 (some (T.2.1 28 ((0 : Int32).toNatClampNeg)))) else (if p1 = 2 then (ck (p3 + p2) 122 (some (T.2.1 28 (p3 + p2).toNatClampNeg))) else ((m_X9_planOf T p0 (p1 + 1) 0).bind (fun r3 => (pl T p0 (p1 + 1) 0 r3 0 0 (p3 + p2)).bind (fun r5 => some r5))))
set_option maxHeartbeats 4000000 in
set_option maxRecDepth 100000 in
theorem c_X9_plannedBehind (l : Launch) (D : va_G) (cy : Nat → ClassId) (ad : Nat → Nat) (X : va_W) (pl : St → Int32 → Int32 → Int32 → Int32 → Int32 → Int32 → Int32 → Option Int32) (dd : Nat) (hf : ∀ (T : St) (p0 p1 p2 p3 p4 p5 p6 : Int32) (r : Int32), pl T p0 p1 p2 p3 p4 p5 p6 = some r → CT l yX9_planned (wu yX9_planned cX9_planned 10 (some .int)) dd D cy [.ref (ad 0), .int p0, .int p1, .int p2, .int p3, .int p4, .int p5, .int p6] (wR ad cy T ++ X) (some (.int r)) (wR ad cy T ++ X)) (T : St) (p0 : Int32) (p1 : Int32) (p2 : Int32) (p3 : Int32) (r : (Int32)) (h : m_X9_plannedBehind pl T p0 p1 p2 p3 = some r) : CT l yX9_plannedBehind (wu yX9_plannedBehind cX9_plannedBehind 5 (some .int)) (dd + 1) D cy [.ref (ad 0), .int p0, .int p1, .int p2, .int p3] (wR ad cy T ++ X) (some (.int r)) (wR ad cy T ++ X) := by
  refine CT.mk (cc := cX9_plannedBehind) (maxL := 5) (ret := (some .int)) (own := RX9) (by decide) rfl rfl (Nat.le_of_ble_eq_true rfl) ?_
  intro p e s m args below meth c ls A Q hA hQ hC hr hk hW hl
  have hx := hC.1
  have hb := hC.2.1
  have hown := hC.2.2.2.1
  have hts := hC.2.2.2.2
  have hl : lv_has ls 5 [(0, .ref (ad 0)), (1, .int p0), (2, .int p1), (3, .int p2), (4, .int p3)] := hl
  have f56 := hts _ (wu_in w_5_18)
  have i9 := (fun w h => wu_in (inc_9 w h) : ∀ w ∈ u_ws RX9 TX9 40, w ∈ (wu yX9_plannedBehind cX9_plannedBehind 5 (some .int)))
  unfold m_X9_plannedBehind at h
  refine lv_iload_n hx hb dX9_plannedBehind_0 rfl (lv_at hl 3 rfl) ?_
  refine lv_if_ne (tgt := 11) hx hb dX9_plannedBehind_1 (by decide) (fun c1 => ?_) (fun c1 => ?_)
  · replace h := ite_f h c1
    refine lv_iload_n hx hb dX9_plannedBehind_11 rfl (lv_at hl 2 rfl) ?_
    refine lv_iconst (v := 2) hx hb dX9_plannedBehind_12 (by decide) ?_
    refine lv_icmp_ne (tgt := 28) hx hb dX9_plannedBehind_13 (by decide) (fun c2 => ?_) (fun c2 => ?_)
    · replace h := ite_f h c2
      refine lv_aload_n hx hb dX9_plannedBehind_28 rfl (lv_at hl 0 rfl) ?_
      refine lv_iload_n hx hb dX9_plannedBehind_29 rfl (lv_at hl 1 rfl) ?_
      refine lv_iload_n hx hb dX9_plannedBehind_30 rfl (lv_at hl 2 rfl) ?_
      refine lv_iconst (v := 1) hx hb dX9_plannedBehind_31 (by decide) ?_
      refine lv_iadd hx hb dX9_plannedBehind_32 ?_
      refine lv_iconst (v := 0) hx hb dX9_plannedBehind_33 (by decide) ?_
      refine lv_aload_n hx hb dX9_plannedBehind_34 rfl (lv_at hl 0 rfl) ?_
      refine lv_iload_n hx hb dX9_plannedBehind_35 rfl (lv_at hl 1 rfl) ?_
      refine lv_iload_n hx hb dX9_plannedBehind_36 rfl (lv_at hl 2 rfl) ?_
      refine lv_iconst (v := 1) hx hb dX9_plannedBehind_37 (by decide) ?_
      refine lv_iadd hx hb dX9_plannedBehind_38 ?_
      refine lv_iconst (v := 0) hx hb dX9_plannedBehind_39 (by decide) ?_
      obtain ⟨r3, hr4, h⟩ := bd_of h
      refine wd_callV1 (As := [.int p0, .int (p1 + 1), .int 0]) hC hW 0 wR_c0 rfl (c_X9_planOf l D cy ad X T p0 (p1 + 1) 0 r3 hr4) (cwV 3 hts (gu_V w_12_4 w_12_1 w_12_2 w_12_3 w_1_5) rfl rfl rfl hdX9_planOf ⟨(show (0) + 1 ≤ dd + 1 by omega), (show 8 + (4 + 11) + 40 * (0) ≤ 40 * (dd + 1) by omega)⟩) rfl hl.1 rfl (Nat.le_of_ble_eq_true rfl) ⟨Nat.zero_le _, Nat.zero_le _⟩ dX9_plannedBehind_40 (fun H locs hW => ?_)
      refine lv_iconst (v := 0) hx hb dX9_plannedBehind_43 (by decide) ?_
      refine lv_iconst (v := 0) hx hb dX9_plannedBehind_44 (by decide) ?_
      refine lv_iload hx hb dX9_plannedBehind_45 (lv_at hl 4 rfl) ?_
      refine lv_iload_n hx hb dX9_plannedBehind_47 rfl (lv_at hl 3 rfl) ?_
      refine lv_iadd hx hb dX9_plannedBehind_48 ?_
      obtain ⟨r5, hr6, h⟩ := bd_of h
      refine wd_callV1 (As := [.int p0, .int (p1 + 1), .int 0, .int r3, .int 0, .int 0, .int (p3 + p2)]) hC hW 0 wR_c0 rfl (hf T p0 (p1 + 1) 0 r3 0 0 (p3 + p2) r5 hr6) (cwV 7 hts (gu_V w_28_23 w_28_20 w_28_21 w_28_22 w_1_5) rfl rfl rfl hdX9_planned ⟨(show (dd) + 1 ≤ dd + 1 by omega), (show 8 + (10 + 11) + 40 * (dd) ≤ 40 * (dd + 1) by omega)⟩) rfl hl.1 rfl (Nat.le_of_ble_eq_true rfl) ⟨Nat.zero_le _, Nat.zero_le _⟩ dX9_plannedBehind_49 (fun H locs hW => ?_)
      obtain rfl := Option.some.inj h
      exact wd_iret hA hQ hC hr hk hW dX9_plannedBehind_52
    · replace h := ite_t h c2
      refine lv_aload_n hx hb dX9_plannedBehind_16 rfl (lv_at hl 0 rfl) ?_
      refine wd_get hC i9 hW 0 wR_c0 rfl 28 (Nat.le_of_ble_eq_true rfl) f56 rfl rfl dX9_plannedBehind_17 ?_
      refine lv_iload hx hb dX9_plannedBehind_20 (lv_at hl 4 rfl) ?_
      refine lv_iload_n hx hb dX9_plannedBehind_22 rfl (lv_at hl 3 rfl) ?_
      refine lv_iadd hx hb dX9_plannedBehind_23 ?_
      obtain ⟨hi7, h⟩ := ck_of h
      refine wd_iald hC hW 16 wR_c16 hi7 dX9_plannedBehind_24 ?_
      refine lv_goto (tgt := 52) hx hb dX9_plannedBehind_25 (by decide) ?_
      obtain rfl := Option.some.inj h
      exact wd_iret hA hQ hC hr hk hW dX9_plannedBehind_52
  · replace h := ite_t h c1
    refine lv_aload_n hx hb dX9_plannedBehind_4 rfl (lv_at hl 0 rfl) ?_
    refine wd_get hC i9 hW 0 wR_c0 rfl 28 (Nat.le_of_ble_eq_true rfl) f56 rfl rfl dX9_plannedBehind_5 ?_
    refine lv_iconst (v := 0) hx hb dX9_plannedBehind_8 (by decide) ?_
    obtain ⟨hi8, h⟩ := ck_of h
    refine wd_iald hC hW 16 wR_c16 hi8 dX9_plannedBehind_9 ?_
    obtain rfl := Option.some.inj h
    exact wd_iret hA hQ hC hr hk hW dX9_plannedBehind_10
def m_X9_planned (n : Nat) : Nat → St → Int32 → Int32 → Int32 → Int32 → Int32 → Int32 → Int32 → Option (Int32)
  | 0, _, _, _, _, _, _, _, _ => none
  | g + 1, T, p0, p1, p2, p3, p4, p5, p6 =>
    if p3 = 0 then ((m_X9_plannedBehind (m_X9_planned n g) T p0 p1 p5 p6).bind (fun r2 => some r2)) else (if p2 = 3 then ((m_X9_plannedBehind (m_X9_planned n g) T p0 p1 p5 p6).bind (fun r17 => some r17)) else ((m_X9_asksThen T p0 p1 p2 p3 1).bind (fun r5 => (m_X9_planned n g T p0 p1 (p2 + 1) r5 p4 (mx p5 p3) p6).bind (fun r7 => (m_X9_asksThen T p0 p1 p2 p3 0).bind (fun r9 => (m_X9_planned n g T p0 p1 (p2 + 1) r9 (p4 + 1) p5 p6).bind (fun r11 => (m_X9_oddsOf n T p0 p1 p3 p4).bind (fun r13 => (m_X9_expected T r13 r7 r11).bind (fun r15 => some r15))))))))
theorem m_X9_planned_s {n : Nat} {g : Nat} {T : St} {p0 : Int32} {p1 : Int32} {p2 : Int32} {p3 : Int32} {p4 : Int32} {p5 : Int32} {p6 : Int32} : m_X9_planned n (g + 1) T p0 p1 p2 p3 p4 p5 p6 =
    (if p3 = 0 then ((m_X9_plannedBehind (m_X9_planned n g) T p0 p1 p5 p6).bind (fun r2 => some r2)) else (if p2 = 3 then ((m_X9_plannedBehind (m_X9_planned n g) T p0 p1 p5 p6).bind (fun r17 => some r17)) else ((m_X9_asksThen T p0 p1 p2 p3 1).bind (fun r5 => (m_X9_planned n g T p0 p1 (p2 + 1) r5 p4 (mx p5 p3) p6).bind (fun r7 => (m_X9_asksThen T p0 p1 p2 p3 0).bind (fun r9 => (m_X9_planned n g T p0 p1 (p2 + 1) r9 (p4 + 1) p5 p6).bind (fun r11 => (m_X9_oddsOf n T p0 p1 p3 p4).bind (fun r13 => (m_X9_expected T r13 r7 r11).bind (fun r15 => some r15))))))))) := rfl
set_option maxHeartbeats 4000000 in
set_option maxRecDepth 100000 in
theorem c_X9_planned (l : Launch) (D : va_G) (cy : Nat → ClassId) (ad : Nat → Nat) (X : va_W) (n : Nat) : ∀ (g : Nat) (T : St) (p0 : Int32) (p1 : Int32) (p2 : Int32) (p3 : Int32) (p4 : Int32) (p5 : Int32) (p6 : Int32) (r : (Int32)) (h : m_X9_planned n g T p0 p1 p2 p3 p4 p5 p6 = some r), CT l yX9_planned (wu yX9_planned cX9_planned 10 (some .int)) (4 * g) D cy [.ref (ad 0), .int p0, .int p1, .int p2, .int p3, .int p4, .int p5, .int p6] (wR ad cy T ++ X) (some (.int r)) (wR ad cy T ++ X) := by
  intro g
  induction g with
  | zero =>
    intro T p0 p1 p2 p3 p4 p5 p6 r h
    exact absurd (h.symm.trans (show m_X9_planned n 0 T p0 p1 p2 p3 p4 p5 p6 = none from rfl)) (by simp)
  | succ g ih =>
    intro T p0 p1 p2 p3 p4 p5 p6 r h
    rw [m_X9_planned_s] at h
    refine CT.mk (cc := cX9_planned) (maxL := 10) (ret := (some .int)) (own := RX9) (by decide) rfl rfl (Nat.le_of_ble_eq_true rfl) ?_
    intro p e s m args below meth c ls A Q hA hQ hC hr hk hW hl
    have hx := hC.1
    have hb := hC.2.1
    have hown := hC.2.2.2.1
    have hts := hC.2.2.2.2
    have hl : lv_has ls 10 [(0, .ref (ad 0)), (1, .int p0), (2, .int p1), (3, .int p2), (4, .int p3), (5, .int p4), (6, .int p5), (7, .int p6)] := hl
    have ml100 := hts _ (wu_in w_16_0)
    have msmax := hts _ (wu_in w_15_13)
    have mi := hts _ (wu_in w_15_14)
    have mcmax := hts _ (wu_in w_15_15)
    refine lv_iload hx hb dX9_planned_0 (lv_at hl 4 rfl) ?_
    refine lv_if_eq (tgt := 10) hx hb dX9_planned_2 (by decide) (fun c1 => ?_) (fun c1 => ?_)
    · replace h := ite_t h c1
      refine lv_aload_n hx hb dX9_planned_10 rfl (lv_at hl 0 rfl) ?_
      refine lv_iload_n hx hb dX9_planned_11 rfl (lv_at hl 1 rfl) ?_
      refine lv_iload_n hx hb dX9_planned_12 rfl (lv_at hl 2 rfl) ?_
      refine lv_iload hx hb dX9_planned_13 (lv_at hl 6 rfl) ?_
      refine lv_iload hx hb dX9_planned_15 (lv_at hl 7 rfl) ?_
      obtain ⟨r2, hr3, h⟩ := bd_of h
      refine wd_callV1 (As := [.int p0, .int p1, .int p5, .int p6]) hC hW 0 wR_c0 rfl (c_X9_plannedBehind l D cy ad X (m_X9_planned n g) (4 * g) ih T p0 p1 p5 p6 r2 hr3) (cwV 4 hts (gu_V w_29_7 w_29_0 w_29_1 w_29_2 w_1_5) rfl rfl rfl hdX9_plannedBehind ⟨(show (4 * g + 1) + 1 ≤ 4 * (g + 1) by omega), (show 8 + (5 + 11) + 40 * (4 * g + 1) ≤ 40 * (4 * (g + 1)) by omega)⟩) rfl hl.1 rfl (Nat.le_of_ble_eq_true rfl) ⟨Nat.zero_le _, Nat.zero_le _⟩ dX9_planned_17 (fun H locs hW => ?_)
      obtain rfl := Option.some.inj h
      exact wd_iret hA hQ hC hr hk hW dX9_planned_20
    · replace h := ite_f h c1
      refine lv_iload_n hx hb dX9_planned_5 rfl (lv_at hl 3 rfl) ?_
      refine lv_iconst (v := 3) hx hb dX9_planned_6 (by decide) ?_
      refine lv_icmp_ne (tgt := 21) hx hb dX9_planned_7 (by decide) (fun c4 => ?_) (fun c4 => ?_)
      · replace h := ite_f h c4
        refine lv_aload_n hx hb dX9_planned_21 rfl (lv_at hl 0 rfl) ?_
        refine lv_iload_n hx hb dX9_planned_22 rfl (lv_at hl 1 rfl) ?_
        refine lv_iload_n hx hb dX9_planned_23 rfl (lv_at hl 2 rfl) ?_
        refine lv_iload_n hx hb dX9_planned_24 rfl (lv_at hl 3 rfl) ?_
        refine lv_iconst (v := 1) hx hb dX9_planned_25 (by decide) ?_
        refine lv_iadd hx hb dX9_planned_26 ?_
        refine lv_aload_n hx hb dX9_planned_27 rfl (lv_at hl 0 rfl) ?_
        refine lv_iload_n hx hb dX9_planned_28 rfl (lv_at hl 1 rfl) ?_
        refine lv_iload_n hx hb dX9_planned_29 rfl (lv_at hl 2 rfl) ?_
        refine lv_iload_n hx hb dX9_planned_30 rfl (lv_at hl 3 rfl) ?_
        refine lv_iload hx hb dX9_planned_31 (lv_at hl 4 rfl) ?_
        refine lv_iconst (v := 1) hx hb dX9_planned_33 (by decide) ?_
        obtain ⟨r5, hr6, h⟩ := bd_of h
        refine wd_callV1 (As := [.int p0, .int p1, .int p2, .int p3, .int 1]) hC hW 0 wR_c0 rfl (c_X9_asksThen l D cy ad X T p0 p1 p2 p3 1 r5 hr6) (cwV 5 hts (gu_V w_21_17 w_21_14 w_21_15 w_21_16 w_1_5) rfl rfl rfl hdX9_asksThen ⟨(show (1) + 1 ≤ 4 * (g + 1) by omega), (show 8 + (7 + 11) + 40 * (1) ≤ 40 * (4 * (g + 1)) by omega)⟩) rfl hl.1 rfl (Nat.le_of_ble_eq_true rfl) ⟨Nat.zero_le _, Nat.zero_le _⟩ dX9_planned_34 (fun H locs hW => ?_)
        refine lv_iload hx hb dX9_planned_37 (lv_at hl 5 rfl) ?_
        refine lv_iload hx hb dX9_planned_39 (lv_at hl 6 rfl) ?_
        refine lv_iload hx hb dX9_planned_41 (lv_at hl 4 rfl) ?_
        refine wd_max hC hl.1 ml100 msmax mi mcmax (show 1 ≤ 4 * (g + 1) by omega) (Nat.le_trans (Nat.le_of_ble_eq_true rfl : _ ≤ 40) (show 40 ≤ 40 * (4 * (g + 1)) by omega)) (Nat.zero_le _) (Nat.zero_le _) dX9_planned_43 ?_
        refine lv_iload hx hb dX9_planned_46 (lv_at hl 7 rfl) ?_
        obtain ⟨r7, hr8, h⟩ := bd_of h
        refine wd_callV1 (As := [.int p0, .int p1, .int (p2 + 1), .int r5, .int p4, .int (mx p5 p3), .int p6]) hC hW 0 wR_c0 rfl (ih T p0 p1 (p2 + 1) r5 p4 (mx p5 p3) p6 r7 hr8) (cwV 7 hts (gu_V w_28_23 w_28_20 w_28_21 w_28_22 w_1_5) rfl rfl rfl hdX9_planned ⟨(show (4 * g) + 1 ≤ 4 * (g + 1) by omega), (show 8 + (10 + 11) + 40 * (4 * g) ≤ 40 * (4 * (g + 1)) by omega)⟩) rfl hl.1 rfl (Nat.le_of_ble_eq_true rfl) ⟨Nat.zero_le _, Nat.zero_le _⟩ dX9_planned_48 (fun H locs hW => ?_)
        refine lv_istore (lv' := [(8, .int r7), (0, .ref (ad 0)), (1, .int p0), (2, .int p1), (3, .int p2), (4, .int p3), (5, .int p4), (6, .int p5), (7, .int p6)]) hx hb dX9_planned_51 hl (by decide) rfl (fun ls hl => ?_)
        refine lv_aload_n hx hb dX9_planned_53 rfl (lv_at hl 1 rfl) ?_
        refine lv_iload_n hx hb dX9_planned_54 rfl (lv_at hl 2 rfl) ?_
        refine lv_iload_n hx hb dX9_planned_55 rfl (lv_at hl 3 rfl) ?_
        refine lv_iload_n hx hb dX9_planned_56 rfl (lv_at hl 4 rfl) ?_
        refine lv_iconst (v := 1) hx hb dX9_planned_57 (by decide) ?_
        refine lv_iadd hx hb dX9_planned_58 ?_
        refine lv_aload_n hx hb dX9_planned_59 rfl (lv_at hl 1 rfl) ?_
        refine lv_iload_n hx hb dX9_planned_60 rfl (lv_at hl 2 rfl) ?_
        refine lv_iload_n hx hb dX9_planned_61 rfl (lv_at hl 3 rfl) ?_
        refine lv_iload_n hx hb dX9_planned_62 rfl (lv_at hl 4 rfl) ?_
        refine lv_iload hx hb dX9_planned_63 (lv_at hl 5 rfl) ?_
        refine lv_iconst (v := 0) hx hb dX9_planned_65 (by decide) ?_
        obtain ⟨r9, hr10, h⟩ := bd_of h
        refine wd_callV1 (As := [.int p0, .int p1, .int p2, .int p3, .int 0]) hC hW 0 wR_c0 rfl (c_X9_asksThen l D cy ad X T p0 p1 p2 p3 0 r9 hr10) (cwV 5 hts (gu_V w_21_17 w_21_14 w_21_15 w_21_16 w_1_5) rfl rfl rfl hdX9_asksThen ⟨(show (1) + 1 ≤ 4 * (g + 1) by omega), (show 8 + (7 + 11) + 40 * (1) ≤ 40 * (4 * (g + 1)) by omega)⟩) rfl hl.1 rfl (Nat.le_of_ble_eq_true rfl) ⟨Nat.zero_le _, Nat.zero_le _⟩ dX9_planned_66 (fun H locs hW => ?_)
        refine lv_iload hx hb dX9_planned_69 (lv_at hl 6 rfl) ?_
        refine lv_iconst (v := 1) hx hb dX9_planned_71 (by decide) ?_
        refine lv_iadd hx hb dX9_planned_72 ?_
        refine lv_iload hx hb dX9_planned_73 (lv_at hl 7 rfl) ?_
        refine lv_iload hx hb dX9_planned_75 (lv_at hl 8 rfl) ?_
        obtain ⟨r11, hr12, h⟩ := bd_of h
        refine wd_callV1 (As := [.int p0, .int p1, .int (p2 + 1), .int r9, .int (p4 + 1), .int p5, .int p6]) hC hW 0 wR_c0 rfl (ih T p0 p1 (p2 + 1) r9 (p4 + 1) p5 p6 r11 hr12) (cwV 7 hts (gu_V w_28_23 w_28_20 w_28_21 w_28_22 w_1_5) rfl rfl rfl hdX9_planned ⟨(show (4 * g) + 1 ≤ 4 * (g + 1) by omega), (show 8 + (10 + 11) + 40 * (4 * g) ≤ 40 * (4 * (g + 1)) by omega)⟩) rfl hl.1 rfl (Nat.le_of_ble_eq_true rfl) ⟨Nat.zero_le _, Nat.zero_le _⟩ dX9_planned_77 (fun H locs hW => ?_)
        refine lv_istore (lv' := [(9, .int r11), (8, .int r7), (0, .ref (ad 0)), (1, .int p0), (2, .int p1), (3, .int p2), (4, .int p3), (5, .int p4), (6, .int p5), (7, .int p6)]) hx hb dX9_planned_80 hl (by decide) rfl (fun ls hl => ?_)
        refine lv_aload_n hx hb dX9_planned_82 rfl (lv_at hl 2 rfl) ?_
        refine lv_iload_n hx hb dX9_planned_83 rfl (lv_at hl 3 rfl) ?_
        refine lv_iload_n hx hb dX9_planned_84 rfl (lv_at hl 4 rfl) ?_
        refine lv_iload hx hb dX9_planned_85 (lv_at hl 6 rfl) ?_
        refine lv_iload hx hb dX9_planned_87 (lv_at hl 7 rfl) ?_
        obtain ⟨r13, hr14, h⟩ := bd_of h
        refine wd_callV1 (As := [.int p0, .int p1, .int p3, .int p4]) hC hW 0 wR_c0 rfl (c_X9_oddsOf l D cy ad X n T p0 p1 p3 p4 r13 hr14) (cwV 4 hts (gu_V w_15_23 w_15_20 w_15_21 w_15_22 w_1_5) rfl rfl rfl hdX9_oddsOf ⟨(show (1) + 1 ≤ 4 * (g + 1) by omega), (show 8 + (5 + 11) + 40 * (1) ≤ 40 * (4 * (g + 1)) by omega)⟩) rfl hl.1 rfl (Nat.le_of_ble_eq_true rfl) ⟨Nat.zero_le _, Nat.zero_le _⟩ dX9_planned_89 (fun H locs hW => ?_)
        refine lv_iload hx hb dX9_planned_92 (lv_at hl 1 rfl) ?_
        refine lv_iload hx hb dX9_planned_94 (lv_at hl 0 rfl) ?_
        obtain ⟨r15, hr16, h⟩ := bd_of h
        refine wd_callS1 (As := [.int r13, .int r7, .int r11]) hC hW (c_X9_expected l D cy ad X T r13 r7 r11 r15 hr16) (va_cwS 3 hts (gu_S w_29_5 w_29_3 w_29_4 w_1_5) rfl rfl rfl hdX9_expected ⟨(show (0) + 1 ≤ 4 * (g + 1) by omega), (show 8 + (3 + 11) + 40 * (0) ≤ 40 * (4 * (g + 1)) by omega)⟩) rfl hl.1 rfl (Nat.le_of_ble_eq_true rfl) ⟨Nat.zero_le _, Nat.zero_le _⟩ dX9_planned_96 (fun H locs hW => ?_)
        obtain rfl := Option.some.inj h
        exact wd_iret hA hQ hC hr hk hW dX9_planned_99
      · replace h := ite_t h c4
        refine lv_aload_n hx hb dX9_planned_10 rfl (lv_at hl 0 rfl) ?_
        refine lv_iload_n hx hb dX9_planned_11 rfl (lv_at hl 1 rfl) ?_
        refine lv_iload_n hx hb dX9_planned_12 rfl (lv_at hl 2 rfl) ?_
        refine lv_iload hx hb dX9_planned_13 (lv_at hl 6 rfl) ?_
        refine lv_iload hx hb dX9_planned_15 (lv_at hl 7 rfl) ?_
        obtain ⟨r17, hr18, h⟩ := bd_of h
        refine wd_callV1 (As := [.int p0, .int p1, .int p5, .int p6]) hC hW 0 wR_c0 rfl (c_X9_plannedBehind l D cy ad X (m_X9_planned n g) (4 * g) ih T p0 p1 p5 p6 r17 hr18) (cwV 4 hts (gu_V w_29_7 w_29_0 w_29_1 w_29_2 w_1_5) rfl rfl rfl hdX9_plannedBehind ⟨(show (4 * g + 1) + 1 ≤ 4 * (g + 1) by omega), (show 8 + (5 + 11) + 40 * (4 * g + 1) ≤ 40 * (4 * (g + 1)) by omega)⟩) rfl hl.1 rfl (Nat.le_of_ble_eq_true rfl) ⟨Nat.zero_le _, Nat.zero_le _⟩ dX9_planned_17 (fun H locs hW => ?_)
        obtain rfl := Option.some.inj h
        exact wd_iret hA hQ hC hr hk hW dX9_planned_20
def m_X9_planNow (n : Nat) (T : St) (p0 : Int32) : Option (Int32) :=
  (m_X9_isOut T p0).bind (fun r1 => if r1 = 0 then ((m_X9_isOver T).bind (fun r7 => if r7 = 0 then (ck 0 63 ((m_X9_roundOf T p0).bind (fun r11 => (m_X9_of T p0 0).bind (fun r13 => (m_X9_of T p0 4).bind (fun r15 => (m_X9_of T p0 (7 + (T.2.1 11 ((0 : Int32).toNatClampNeg)))).bind (fun r17 => (m_X9_sumAhead n T p0).bind (fun r19 => (m_X9_planned n 16 T p0 (T.2.1 11 ((0 : Int32).toNatClampNeg)) r11 r13 r15 r17 r19).bind (fun r21 => some r21)))))))) else ((m_X9_sumOf T p0).bind (fun r23 => ck r23 122 (some (T.2.1 28 r23.toNatClampNeg)))))) else ((m_X9_sumOf T p0).bind (fun r4 => ck r4 122 (some (T.2.1 28 r4.toNatClampNeg)))))
set_option maxHeartbeats 4000000 in
set_option maxRecDepth 100000 in
theorem c_X9_planNow (l : Launch) (D : va_G) (cy : Nat → ClassId) (ad : Nat → Nat) (X : va_W) (n : Nat) (T : St) (p0 : Int32) (r : (Int32)) (h : m_X9_planNow n T p0 = some r) : CT l yX9_planNow (wu yX9_planNow cX9_planNow 3 (some .int)) 65 D cy [.ref (ad 0), .int p0] (wR ad cy T ++ X) (some (.int r)) (wR ad cy T ++ X) := by
  refine CT.mk (cc := cX9_planNow) (maxL := 3) (ret := (some .int)) (own := RX9) (by decide) rfl rfl (Nat.le_of_ble_eq_true rfl) ?_
  intro p e s m args below meth c ls A Q hA hQ hC hr hk hW hl
  have hx := hC.1
  have hb := hC.2.1
  have hown := hC.2.2.2.1
  have hts := hC.2.2.2.2
  have hl : lv_has ls 3 [(0, .ref (ad 0)), (1, .int p0)] := hl
  have f56 := hts _ (wu_in w_5_18)
  have i9 := (fun w h => wu_in (inc_9 w h) : ∀ w ∈ u_ws RX9 TX9 40, w ∈ (wu yX9_planNow cX9_planNow 3 (some .int)))
  have f32 := hts _ (wu_in w_5_10)
  unfold m_X9_planNow at h
  refine lv_aload_n hx hb dX9_planNow_0 rfl (lv_at hl 0 rfl) ?_
  refine lv_iload_n hx hb dX9_planNow_1 rfl (lv_at hl 1 rfl) ?_
  obtain ⟨r1, hr2, h⟩ := bd_of h
  refine wd_callV1 (As := [.int p0]) hC hW 0 wR_c0 rfl (c_X9_isOut l D cy ad X T p0 r1 hr2) (cwV 1 hts (gu_V w_11_20 w_11_17 w_11_18 w_11_19 w_1_5) rfl rfl rfl hdX9_isOut ⟨Nat.le_of_ble_eq_true rfl, Nat.le_of_ble_eq_true rfl⟩) rfl hl.1 rfl (Nat.le_of_ble_eq_true rfl) ⟨Nat.zero_le _, Nat.zero_le _⟩ dX9_planNow_2 (fun H locs hW => ?_)
  refine lv_if_ne (tgt := 15) hx hb dX9_planNow_5 (by decide) (fun c3 => ?_) (fun c3 => ?_)
  · replace h := ite_f h c3
    refine lv_aload_n hx hb dX9_planNow_15 rfl (lv_at hl 0 rfl) ?_
    refine wd_get hC i9 hW 0 wR_c0 rfl 28 (Nat.le_of_ble_eq_true rfl) f56 rfl rfl dX9_planNow_16 ?_
    refine lv_aload_n hx hb dX9_planNow_19 rfl (lv_at hl 0 rfl) ?_
    refine lv_iload_n hx hb dX9_planNow_20 rfl (lv_at hl 1 rfl) ?_
    obtain ⟨r4, hr5, h⟩ := bd_of h
    refine wd_callV1 (As := [.int p0]) hC hW 0 wR_c0 rfl (c_X9_sumOf l D cy ad X T p0 r4 hr5) (cwV 1 hts (gu_V w_17_22 w_17_19 w_17_20 w_17_21 w_1_5) rfl rfl rfl hdX9_sumOf ⟨Nat.le_of_ble_eq_true rfl, Nat.le_of_ble_eq_true rfl⟩) rfl hl.1 rfl (Nat.le_of_ble_eq_true rfl) ⟨Nat.zero_le _, Nat.zero_le _⟩ dX9_planNow_21 (fun H locs hW => ?_)
    obtain ⟨hi6, h⟩ := ck_of h
    refine wd_iald hC hW 16 wR_c16 hi6 dX9_planNow_24 ?_
    obtain rfl := Option.some.inj h
    exact wd_iret hA hQ hC hr hk hW dX9_planNow_25
  · replace h := ite_t h c3
    refine lv_aload_n hx hb dX9_planNow_8 rfl (lv_at hl 0 rfl) ?_
    obtain ⟨r7, hr8, h⟩ := bd_of h
    refine wd_callV1 (As := []) hC hW 0 wR_c0 rfl (c_X9_isOver l D cy ad X T r7 hr8) (cwV 0 hts (gu_V w_11_16 w_11_13 w_11_14 w_11_15 w_1_5) rfl rfl rfl hdX9_isOver ⟨Nat.le_of_ble_eq_true rfl, Nat.le_of_ble_eq_true rfl⟩) rfl hl.1 rfl (Nat.le_of_ble_eq_true rfl) ⟨Nat.zero_le _, Nat.zero_le _⟩ dX9_planNow_9 (fun H locs hW => ?_)
    refine lv_if_eq (tgt := 26) hx hb dX9_planNow_12 (by decide) (fun c9 => ?_) (fun c9 => ?_)
    · replace h := ite_t h c9
      refine lv_aload_n hx hb dX9_planNow_26 rfl (lv_at hl 0 rfl) ?_
      refine wd_get hC i9 hW 0 wR_c0 rfl 11 (Nat.le_of_ble_eq_true rfl) f32 rfl rfl dX9_planNow_27 ?_
      refine lv_iconst (v := 0) hx hb dX9_planNow_30 (by decide) ?_
      obtain ⟨hi10, h⟩ := ck_of h
      refine wd_iald hC hW 8 wR_c8 hi10 dX9_planNow_31 ?_
      refine lv_istore_n (lv' := [(2, .int (T.2.1 11 ((0 : Int32).toNatClampNeg))), (0, .ref (ad 0)), (1, .int p0)]) hx hb dX9_planNow_32 rfl hl (by decide) rfl (fun ls hl => ?_)
      refine lv_aload_n hx hb dX9_planNow_33 rfl (lv_at hl 1 rfl) ?_
      refine lv_iload_n hx hb dX9_planNow_34 rfl (lv_at hl 2 rfl) ?_
      refine lv_iload_n hx hb dX9_planNow_35 rfl (lv_at hl 0 rfl) ?_
      refine lv_aload_n hx hb dX9_planNow_36 rfl (lv_at hl 1 rfl) ?_
      refine lv_iload_n hx hb dX9_planNow_37 rfl (lv_at hl 2 rfl) ?_
      obtain ⟨r11, hr12, h⟩ := bd_of h
      refine wd_callV1 (As := [.int p0]) hC hW 0 wR_c0 rfl (c_X9_roundOf l D cy ad X T p0 r11 hr12) (cwV 1 hts (gu_V w_28_15 w_28_12 w_28_13 w_28_14 w_1_5) rfl rfl rfl hdX9_roundOf ⟨Nat.le_of_ble_eq_true rfl, Nat.le_of_ble_eq_true rfl⟩) rfl hl.1 rfl (Nat.le_of_ble_eq_true rfl) ⟨Nat.zero_le _, Nat.zero_le _⟩ dX9_planNow_38 (fun H locs hW => ?_)
      refine lv_aload_n hx hb dX9_planNow_41 rfl (lv_at hl 1 rfl) ?_
      refine lv_iload_n hx hb dX9_planNow_42 rfl (lv_at hl 2 rfl) ?_
      refine lv_iconst (v := 0) hx hb dX9_planNow_43 (by decide) ?_
      obtain ⟨r13, hr14, h⟩ := bd_of h
      refine wd_callV1 (As := [.int p0, .int 0]) hC hW 0 wR_c0 rfl (c_X9_of l D cy ad X T p0 0 r13 hr14) (cwV 2 hts (gu_V w_12_0 w_11_21 w_11_22 w_11_23 w_1_5) rfl rfl rfl hdX9_of ⟨Nat.le_of_ble_eq_true rfl, Nat.le_of_ble_eq_true rfl⟩) rfl hl.1 rfl (Nat.le_of_ble_eq_true rfl) ⟨Nat.zero_le _, Nat.zero_le _⟩ dX9_planNow_44 (fun H locs hW => ?_)
      refine lv_aload_n hx hb dX9_planNow_47 rfl (lv_at hl 1 rfl) ?_
      refine lv_iload_n hx hb dX9_planNow_48 rfl (lv_at hl 2 rfl) ?_
      refine lv_iconst (v := 4) hx hb dX9_planNow_49 (by decide) ?_
      obtain ⟨r15, hr16, h⟩ := bd_of h
      refine wd_callV1 (As := [.int p0, .int 4]) hC hW 0 wR_c0 rfl (c_X9_of l D cy ad X T p0 4 r15 hr16) (cwV 2 hts (gu_V w_12_0 w_11_21 w_11_22 w_11_23 w_1_5) rfl rfl rfl hdX9_of ⟨Nat.le_of_ble_eq_true rfl, Nat.le_of_ble_eq_true rfl⟩) rfl hl.1 rfl (Nat.le_of_ble_eq_true rfl) ⟨Nat.zero_le _, Nat.zero_le _⟩ dX9_planNow_50 (fun H locs hW => ?_)
      refine lv_aload_n hx hb dX9_planNow_53 rfl (lv_at hl 1 rfl) ?_
      refine lv_iload_n hx hb dX9_planNow_54 rfl (lv_at hl 2 rfl) ?_
      refine lv_bipush (v := 7) hx hb dX9_planNow_55 (by decide) ?_
      refine lv_iload_n hx hb dX9_planNow_57 rfl (lv_at hl 0 rfl) ?_
      refine lv_iadd hx hb dX9_planNow_58 ?_
      obtain ⟨r17, hr18, h⟩ := bd_of h
      refine wd_callV1 (As := [.int p0, .int (7 + (T.2.1 11 ((0 : Int32).toNatClampNeg)))]) hC hW 0 wR_c0 rfl (c_X9_of l D cy ad X T p0 (7 + (T.2.1 11 ((0 : Int32).toNatClampNeg))) r17 hr18) (cwV 2 hts (gu_V w_12_0 w_11_21 w_11_22 w_11_23 w_1_5) rfl rfl rfl hdX9_of ⟨Nat.le_of_ble_eq_true rfl, Nat.le_of_ble_eq_true rfl⟩) rfl hl.1 rfl (Nat.le_of_ble_eq_true rfl) ⟨Nat.zero_le _, Nat.zero_le _⟩ dX9_planNow_59 (fun H locs hW => ?_)
      refine lv_aload_n hx hb dX9_planNow_62 rfl (lv_at hl 1 rfl) ?_
      refine lv_iload_n hx hb dX9_planNow_63 rfl (lv_at hl 2 rfl) ?_
      obtain ⟨r19, hr20, h⟩ := bd_of h
      refine wd_callV1 (As := [.int p0]) hC hW 0 wR_c0 rfl (c_X9_sumAhead l D cy ad X n T p0 r19 hr20) (cwV 1 hts (gu_V w_28_19 w_28_16 w_28_17 w_28_18 w_1_5) rfl rfl rfl hdX9_sumAhead ⟨Nat.le_of_ble_eq_true rfl, Nat.le_of_ble_eq_true rfl⟩) rfl hl.1 rfl (Nat.le_of_ble_eq_true rfl) ⟨Nat.zero_le _, Nat.zero_le _⟩ dX9_planNow_64 (fun H locs hW => ?_)
      obtain ⟨r21, hr22, h⟩ := bd_of h
      refine wd_callV1 (As := [.int p0, .int (T.2.1 11 ((0 : Int32).toNatClampNeg)), .int r11, .int r13, .int r15, .int r17, .int r19]) hC hW 0 wR_c0 rfl (c_X9_planned l D cy ad X n 16 T p0 (T.2.1 11 ((0 : Int32).toNatClampNeg)) r11 r13 r15 r17 r19 r21 hr22) (cwV 7 hts (gu_V w_28_23 w_28_20 w_28_21 w_28_22 w_1_5) rfl rfl rfl hdX9_planned ⟨Nat.le_of_ble_eq_true rfl, Nat.le_of_ble_eq_true rfl⟩) rfl hl.1 rfl (Nat.le_of_ble_eq_true rfl) ⟨Nat.zero_le _, Nat.zero_le _⟩ dX9_planNow_67 (fun H locs hW => ?_)
      obtain rfl := Option.some.inj h
      exact wd_iret hA hQ hC hr hk hW dX9_planNow_70
    · replace h := ite_f h c9
      refine lv_aload_n hx hb dX9_planNow_15 rfl (lv_at hl 0 rfl) ?_
      refine wd_get hC i9 hW 0 wR_c0 rfl 28 (Nat.le_of_ble_eq_true rfl) f56 rfl rfl dX9_planNow_16 ?_
      refine lv_aload_n hx hb dX9_planNow_19 rfl (lv_at hl 0 rfl) ?_
      refine lv_iload_n hx hb dX9_planNow_20 rfl (lv_at hl 1 rfl) ?_
      obtain ⟨r23, hr24, h⟩ := bd_of h
      refine wd_callV1 (As := [.int p0]) hC hW 0 wR_c0 rfl (c_X9_sumOf l D cy ad X T p0 r23 hr24) (cwV 1 hts (gu_V w_17_22 w_17_19 w_17_20 w_17_21 w_1_5) rfl rfl rfl hdX9_sumOf ⟨Nat.le_of_ble_eq_true rfl, Nat.le_of_ble_eq_true rfl⟩) rfl hl.1 rfl (Nat.le_of_ble_eq_true rfl) ⟨Nat.zero_le _, Nat.zero_le _⟩ dX9_planNow_21 (fun H locs hW => ?_)
      obtain ⟨hi25, h⟩ := ck_of h
      refine wd_iald hC hW 16 wR_c16 hi25 dX9_planNow_24 ?_
      obtain rfl := Option.some.inj h
      exact wd_iret hA hQ hC hr hk hW dX9_planNow_25
def m_X9_chanceOf (n : Nat) (T : St) (p0 : Int32) (p1 : Int32) : Option (Int32 × St) :=
  (m_X9_aimsReach n T p1).bind (fun r1 => (m_X9_planNow n r1 p0).bind (fun r3 => some (r3, r1)))
set_option maxHeartbeats 4000000 in
set_option maxRecDepth 100000 in
theorem c_X9_chanceOf (l : Launch) (D : va_G) (cy : Nat → ClassId) (ad : Nat → Nat) (X : va_W) (n : Nat) (T : St) (p0 : Int32) (p1 : Int32) (r : (Int32 × St)) (h : m_X9_chanceOf n T p0 p1 = some r) : CT l yX9_chanceOf (wu yX9_chanceOf cX9_chanceOf 3 (some .int)) 66 D cy [.ref (ad 0), .int p0, .int p1] (wR ad cy T ++ X) (some (.int r.1)) (wR ad cy r.2 ++ X) := by
  refine CT.mk (cc := cX9_chanceOf) (maxL := 3) (ret := (some .int)) (own := RX9) (by decide) rfl rfl (Nat.le_of_ble_eq_true rfl) ?_
  intro p e s m args below meth c ls A Q hA hQ hC hr hk hW hl
  have hx := hC.1
  have hb := hC.2.1
  have hown := hC.2.2.2.1
  have hts := hC.2.2.2.2
  have hl : lv_has ls 3 [(0, .ref (ad 0)), (1, .int p0), (2, .int p1)] := hl
  unfold m_X9_chanceOf at h
  refine lv_aload_n hx hb dX9_chanceOf_0 rfl (lv_at hl 0 rfl) ?_
  refine lv_iload_n hx hb dX9_chanceOf_1 rfl (lv_at hl 2 rfl) ?_
  obtain ⟨r1, hr2, h⟩ := bd_of h
  refine wd_callV0 (As := [.int p1]) hC hW 0 wR_c0 rfl (c_X9_aimsReach l D cy ad X n T p1 r1 hr2) (cwV 1 hts (gu_V w_30_11 w_30_8 w_30_9 w_30_10 w_1_5) rfl rfl rfl hdX9_aimsReach ⟨Nat.le_of_ble_eq_true rfl, Nat.le_of_ble_eq_true rfl⟩) rfl hl.1 rfl (Nat.le_of_ble_eq_true rfl) ⟨Nat.zero_le _, Nat.zero_le _⟩ dX9_chanceOf_2 (fun H locs hW => ?_)
  refine lv_aload_n hx hb dX9_chanceOf_5 rfl (lv_at hl 0 rfl) ?_
  refine lv_iload_n hx hb dX9_chanceOf_6 rfl (lv_at hl 1 rfl) ?_
  obtain ⟨r3, hr4, h⟩ := bd_of h
  refine wd_callV1 (As := [.int p0]) hC hW 0 wR_c0 rfl (c_X9_planNow l D cy ad X n r1 p0 r3 hr4) (cwV 1 hts (gu_V w_28_11 w_28_8 w_28_9 w_28_10 w_1_5) rfl rfl rfl hdX9_planNow ⟨Nat.le_of_ble_eq_true rfl, Nat.le_of_ble_eq_true rfl⟩) rfl hl.1 rfl (Nat.le_of_ble_eq_true rfl) ⟨Nat.zero_le _, Nat.zero_le _⟩ dX9_chanceOf_7 (fun H locs hW => ?_)
  obtain rfl := Option.some.inj h
  exact wd_iret hA hQ hC hr hk hW dX9_chanceOf_10
def m_X9_laysChances_L2 : Nat → St → Int32 → Int32 → Option (St)
  | 0, _, _, _ => none
  | n + 1, T, x1, x2 =>
    if 121 < x2 then (some T) else (if x2 = 121 then (ck x2 122 (nm (sA T 29 x2.toNatClampNeg 0) (fun T11 => m_X9_laysChances_L2 n T11 x1 (x2 + 1)))) else ((m_X9_chanceOf n T x1 x2).bind (fun r5 => ck x2 122 (nm (sA r5.2 29 x2.toNatClampNeg r5.1) (fun T8 => m_X9_laysChances_L2 n T8 x1 (x2 + 1))))))
theorem m_X9_laysChances_L2_0 (T : St) (x1 : Int32) (x2 : Int32) : m_X9_laysChances_L2 0 T x1 x2 = none := rfl
theorem m_X9_laysChances_L2_s {n : Nat} {T : St} {x1 : Int32} {x2 : Int32} : m_X9_laysChances_L2 (n + 1) T x1 x2 =
    (if 121 < x2 then (some T) else (if x2 = 121 then (ck x2 122 (nm (sA T 29 x2.toNatClampNeg 0) (fun T11 => m_X9_laysChances_L2 n T11 x1 (x2 + 1)))) else ((m_X9_chanceOf n T x1 x2).bind (fun r5 => ck x2 122 (nm (sA r5.2 29 x2.toNatClampNeg r5.1) (fun T8 => m_X9_laysChances_L2 n T8 x1 (x2 + 1))))))) := rfl
def m_X9_laysChances (n : Nat) (T : St) (p0 : Int32) : Option (St) :=
  (m_X9_laysChances_L2 n T p0 0).bind (fun q1 => some q1)
set_option maxHeartbeats 4000000 in
set_option maxRecDepth 100000 in
theorem c_X9_laysChances (l : Launch) (D : va_G) (cy : Nat → ClassId) (ad : Nat → Nat) (X : va_W) (n : Nat) (T : St) (p0 : Int32) (r : (St)) (h : m_X9_laysChances n T p0 = some r) : CT l yX9_laysChances (wu yX9_laysChances cX9_laysChances 3 none) 67 D cy [.ref (ad 0), .int p0] (wR ad cy T ++ X) (none) (wR ad cy r ++ X) := by
  refine CT.mk (cc := cX9_laysChances) (maxL := 3) (ret := none) (own := RX9) (by decide) rfl rfl (Nat.le_of_ble_eq_true rfl) ?_
  intro p e s m args below meth c ls A Q hA hQ hC hr hk hW hl
  have hx := hC.1
  have hb := hC.2.1
  have hown := hC.2.2.2.1
  have hts := hC.2.2.2.2
  have hl : lv_has ls 3 [(0, .ref (ad 0)), (1, .int p0)] := hl
  have f59 := hts _ (wu_in w_5_19)
  have i9 := (fun w h => wu_in (inc_9 w h) : ∀ w ∈ u_ws RX9 TX9 40, w ∈ (wu yX9_laysChances cX9_laysChances 3 none))
  unfold m_X9_laysChances at h
  refine lv_iconst (v := 0) hx hb dX9_laysChances_0 (by decide) ?_
  refine lv_istore_n (lv' := [(2, .int 0), (0, .ref (ad 0)), (1, .int p0)]) hx hb dX9_laysChances_1 rfl hl (by decide) rfl (fun ls hl => ?_)
  have hL2 : ∀ (n : Nat) (T : St) (x1 : Int32) (x2 : Int32)  (H : Heap) (locs : List Loc) (ls : Array Slot) (r : (St)), m_X9_laysChances_L2 n T x1 x2 = some r → Wd D cy A s (wR ad cy T ++ X) H locs → lv_has ls 3 [(0, .ref (ad 0)), (1, .int x1), (2, .int x2)] → (∀ (H : Heap) (locs : List Loc) (ls : Array Slot), Wd D cy A s (wR ad cy r ++ X) H locs → lv_has ls 3 [(0, .ref (ad 0)), (1, .int x1)] → W p l e (RM 67) s m args below meth c H locs 0 0 Q (F0 m 36 ls [])) → W p l e (RM 67) s m args below meth c H locs 0 0 Q (F0 m 2 ls []) := by
    intro n
    induction n with
    | zero =>
      intro T x1 x2  H locs ls r h
      exact absurd (h.symm.trans (m_X9_laysChances_L2_0 ..)) (by simp)
    | succ n ih =>
      intro T x1 x2  H locs ls r h hW hl kk
      rw [m_X9_laysChances_L2_s] at h
      refine lv_iload_n hx hb dX9_laysChances_2 rfl (lv_at hl 2 rfl) ?_
      refine lv_bipush (v := 121) hx hb dX9_laysChances_3 (by decide) ?_
      refine lv_icmp_gt (tgt := 36) hx hb dX9_laysChances_5 (by decide) (fun c3 => ?_) (fun c3 => ?_)
      · replace h := ite_t h c3
        obtain rfl := Option.some.inj h
        exact kk _ _ _ hW (lv_sub hl [0, 1] rfl)
      · replace h := ite_f h c3
        refine lv_aload_n hx hb dX9_laysChances_8 rfl (lv_at hl 0 rfl) ?_
        refine wd_get hC i9 hW 0 wR_c0 rfl 29 (Nat.le_of_ble_eq_true rfl) f59 rfl rfl dX9_laysChances_9 ?_
        refine lv_iload_n hx hb dX9_laysChances_12 rfl (lv_at hl 2 rfl) ?_
        refine lv_iload_n hx hb dX9_laysChances_13 rfl (lv_at hl 2 rfl) ?_
        refine lv_bipush (v := 121) hx hb dX9_laysChances_14 (by decide) ?_
        refine lv_icmp_ne (tgt := 23) hx hb dX9_laysChances_16 (by decide) (fun c4 => ?_) (fun c4 => ?_)
        · replace h := ite_f h c4
          refine lv_aload_n hx hb dX9_laysChances_23 rfl (lv_at hl 0 rfl) ?_
          refine lv_iload_n hx hb dX9_laysChances_24 rfl (lv_at hl 1 rfl) ?_
          refine lv_iload_n hx hb dX9_laysChances_25 rfl (lv_at hl 2 rfl) ?_
          obtain ⟨r5, hr6, h⟩ := bd_of h
          refine wd_callV1 (As := [.int x1, .int x2]) hC hW 0 wR_c0 rfl (c_X9_chanceOf l D cy ad X n T x1 x2 r5 hr6) (cwV 2 hts (gu_V w_30_7 w_30_4 w_30_5 w_30_6 w_1_5) rfl rfl rfl hdX9_chanceOf ⟨Nat.le_of_ble_eq_true rfl, Nat.le_of_ble_eq_true rfl⟩) rfl hl.1 rfl (Nat.le_of_ble_eq_true rfl) ⟨Nat.zero_le _, Nat.zero_le _⟩ dX9_laysChances_26 (fun H locs hW => ?_)
          obtain ⟨hi7, h⟩ := ck_of h
          refine wd_iast hC hW 17 wR_c17 hi7 wR_t17 dX9_laysChances_29 (fun H locs hW => ?_)
          obtain ⟨T8, e9, h⟩ := nm_of h
          replace hW := wq_T e9 hW
          refine lv_iinc (v := x2 + 1) (lv' := [(2, .int (x2 + 1)), (0, .ref (ad 0)), (1, .int x1)]) hx hb dX9_laysChances_30 hl (k := 2) rfl rfl (by decide) rfl (fun ls hl => ?_)
          refine lv_goto (tgt := 2) hx hb dX9_laysChances_33 (by decide) ?_
          exact ih T8 x1 (x2 + 1) _ _ _ r h hW (lv_sub hl [1, 2, 0] rfl) kk
        · replace h := ite_t h c4
          refine lv_iconst (v := 0) hx hb dX9_laysChances_19 (by decide) ?_
          refine lv_goto (tgt := 29) hx hb dX9_laysChances_20 (by decide) ?_
          obtain ⟨hi10, h⟩ := ck_of h
          refine wd_iast hC hW 17 wR_c17 hi10 wR_t17 dX9_laysChances_29 (fun H locs hW => ?_)
          obtain ⟨T11, e12, h⟩ := nm_of h
          replace hW := wq_T e12 hW
          refine lv_iinc (v := x2 + 1) (lv' := [(2, .int (x2 + 1)), (0, .ref (ad 0)), (1, .int x1)]) hx hb dX9_laysChances_30 hl (k := 2) rfl rfl (by decide) rfl (fun ls hl => ?_)
          refine lv_goto (tgt := 2) hx hb dX9_laysChances_33 (by decide) ?_
          exact ih T11 x1 (x2 + 1) _ _ _ r h hW (lv_sub hl [1, 2, 0] rfl) kk
  obtain ⟨q1, hq2, h⟩ := bd_of h
  refine hL2 n T p0 0  _ _ _ q1 hq2 hW (lv_sub hl [1, 2, 0] rfl) (fun H locs ls hW hl => ?_)
  obtain rfl := Option.some.inj h
  exact wd_vret hA hQ hC hr hk hW dX9_laysChances_36
def m_X9_aimsBeat_L7 : Nat → St → Int32 → Int32 → Int32 → Option (St)
  | 0, _, _, _, _ => none
  | n + 1, T, x1, x2, x3 =>
    if 121 ≤ x3 then (some T) else ((m_X9_beatBy T x1 x2 x3).bind (fun r6 => ck x3 122 (nm (sA T 28 x3.toNatClampNeg r6) (fun T9 => m_X9_aimsBeat_L7 n T9 x1 x2 (x3 + 1)))))
theorem m_X9_aimsBeat_L7_0 (T : St) (x1 : Int32) (x2 : Int32) (x3 : Int32) : m_X9_aimsBeat_L7 0 T x1 x2 x3 = none := rfl
theorem m_X9_aimsBeat_L7_s {n : Nat} {T : St} {x1 : Int32} {x2 : Int32} {x3 : Int32} : m_X9_aimsBeat_L7 (n + 1) T x1 x2 x3 =
    (if 121 ≤ x3 then (some T) else ((m_X9_beatBy T x1 x2 x3).bind (fun r6 => ck x3 122 (nm (sA T 28 x3.toNatClampNeg r6) (fun T9 => m_X9_aimsBeat_L7 n T9 x1 x2 (x3 + 1)))))) := rfl
def m_X9_aimsBeat (n : Nat) (T : St) (p0 : Int32) (p1 : Int32) : Option (St) :=
  (m_X9_laysChances n T p1).bind (fun r1 => (m_X9_aimsBeat_L7 n r1 p0 p1 0).bind (fun q3 => some q3))
set_option maxHeartbeats 4000000 in
set_option maxRecDepth 100000 in
theorem c_X9_aimsBeat (l : Launch) (D : va_G) (cy : Nat → ClassId) (ad : Nat → Nat) (X : va_W) (n : Nat) (T : St) (p0 : Int32) (p1 : Int32) (r : (St)) (h : m_X9_aimsBeat n T p0 p1 = some r) : CT l yX9_aimsBeat (wu yX9_aimsBeat cX9_aimsBeat 4 none) 68 D cy [.ref (ad 0), .int p0, .int p1] (wR ad cy T ++ X) (none) (wR ad cy r ++ X) := by
  refine CT.mk (cc := cX9_aimsBeat) (maxL := 4) (ret := none) (own := RX9) (by decide) rfl rfl (Nat.le_of_ble_eq_true rfl) ?_
  intro p e s m args below meth c ls A Q hA hQ hC hr hk hW hl
  have hx := hC.1
  have hb := hC.2.1
  have hown := hC.2.2.2.1
  have hts := hC.2.2.2.2
  have hl : lv_has ls 4 [(0, .ref (ad 0)), (1, .int p0), (2, .int p1)] := hl
  have f56 := hts _ (wu_in w_5_18)
  have i9 := (fun w h => wu_in (inc_9 w h) : ∀ w ∈ u_ws RX9 TX9 40, w ∈ (wu yX9_aimsBeat cX9_aimsBeat 4 none))
  unfold m_X9_aimsBeat at h
  refine lv_aload_n hx hb dX9_aimsBeat_0 rfl (lv_at hl 0 rfl) ?_
  refine lv_iload_n hx hb dX9_aimsBeat_1 rfl (lv_at hl 2 rfl) ?_
  obtain ⟨r1, hr2, h⟩ := bd_of h
  refine wd_callV0 (As := [.int p1]) hC hW 0 wR_c0 rfl (c_X9_laysChances l D cy ad X n T p1 r1 hr2) (cwV 1 hts (gu_V w_31_11 w_31_8 w_31_9 w_31_10 w_1_5) rfl rfl rfl hdX9_laysChances ⟨Nat.le_of_ble_eq_true rfl, Nat.le_of_ble_eq_true rfl⟩) rfl hl.1 rfl (Nat.le_of_ble_eq_true rfl) ⟨Nat.zero_le _, Nat.zero_le _⟩ dX9_aimsBeat_2 (fun H locs hW => ?_)
  refine lv_iconst (v := 0) hx hb dX9_aimsBeat_5 (by decide) ?_
  refine lv_istore_n (lv' := [(3, .int 0), (0, .ref (ad 0)), (1, .int p0), (2, .int p1)]) hx hb dX9_aimsBeat_6 rfl hl (by decide) rfl (fun ls hl => ?_)
  have hL7 : ∀ (n : Nat) (T : St) (x1 : Int32) (x2 : Int32) (x3 : Int32)  (H : Heap) (locs : List Loc) (ls : Array Slot) (r : (St)), m_X9_aimsBeat_L7 n T x1 x2 x3 = some r → Wd D cy A s (wR ad cy T ++ X) H locs → lv_has ls 4 [(0, .ref (ad 0)), (1, .int x1), (2, .int x2), (3, .int x3)] → (∀ (H : Heap) (locs : List Loc) (ls : Array Slot), Wd D cy A s (wR ad cy r ++ X) H locs → lv_has ls 4 [(0, .ref (ad 0)), (1, .int x1), (2, .int x2)] → W p l e (RM 68) s m args below meth c H locs 0 0 Q (F0 m 32 ls [])) → W p l e (RM 68) s m args below meth c H locs 0 0 Q (F0 m 7 ls []) := by
    intro n
    induction n with
    | zero =>
      intro T x1 x2 x3  H locs ls r h
      exact absurd (h.symm.trans (m_X9_aimsBeat_L7_0 ..)) (by simp)
    | succ n ih =>
      intro T x1 x2 x3  H locs ls r h hW hl kk
      rw [m_X9_aimsBeat_L7_s] at h
      refine lv_iload_n hx hb dX9_aimsBeat_7 rfl (lv_at hl 3 rfl) ?_
      refine lv_bipush (v := 121) hx hb dX9_aimsBeat_8 (by decide) ?_
      refine lv_icmp_ge (tgt := 32) hx hb dX9_aimsBeat_10 (by decide) (fun c5 => ?_) (fun c5 => ?_)
      · replace h := ite_t h c5
        obtain rfl := Option.some.inj h
        exact kk _ _ _ hW (lv_sub hl [0, 1, 2] rfl)
      · replace h := ite_f h c5
        refine lv_aload_n hx hb dX9_aimsBeat_13 rfl (lv_at hl 0 rfl) ?_
        refine wd_get hC i9 hW 0 wR_c0 rfl 28 (Nat.le_of_ble_eq_true rfl) f56 rfl rfl dX9_aimsBeat_14 ?_
        refine lv_iload_n hx hb dX9_aimsBeat_17 rfl (lv_at hl 3 rfl) ?_
        refine lv_aload_n hx hb dX9_aimsBeat_18 rfl (lv_at hl 0 rfl) ?_
        refine lv_iload_n hx hb dX9_aimsBeat_19 rfl (lv_at hl 1 rfl) ?_
        refine lv_iload_n hx hb dX9_aimsBeat_20 rfl (lv_at hl 2 rfl) ?_
        refine lv_iload_n hx hb dX9_aimsBeat_21 rfl (lv_at hl 3 rfl) ?_
        obtain ⟨r6, hr7, h⟩ := bd_of h
        refine wd_callV1 (As := [.int x1, .int x2, .int x3]) hC hW 0 wR_c0 rfl (c_X9_beatBy l D cy ad X T x1 x2 x3 r6 hr7) (cwV 3 hts (gu_V w_32_18 w_32_15 w_32_16 w_32_17 w_1_5) rfl rfl rfl hdX9_beatBy ⟨Nat.le_of_ble_eq_true rfl, Nat.le_of_ble_eq_true rfl⟩) rfl hl.1 rfl (Nat.le_of_ble_eq_true rfl) ⟨Nat.zero_le _, Nat.zero_le _⟩ dX9_aimsBeat_22 (fun H locs hW => ?_)
        obtain ⟨hi8, h⟩ := ck_of h
        refine wd_iast hC hW 16 wR_c16 hi8 wR_t16 dX9_aimsBeat_25 (fun H locs hW => ?_)
        obtain ⟨T9, e10, h⟩ := nm_of h
        replace hW := wq_T e10 hW
        refine lv_iinc (v := x3 + 1) (lv' := [(3, .int (x3 + 1)), (0, .ref (ad 0)), (1, .int x1), (2, .int x2)]) hx hb dX9_aimsBeat_26 hl (k := 3) rfl rfl (by decide) rfl (fun ls hl => ?_)
        refine lv_goto (tgt := 7) hx hb dX9_aimsBeat_29 (by decide) ?_
        exact ih T9 x1 x2 (x3 + 1) _ _ _ r h hW (lv_sub hl [1, 2, 3, 0] rfl) kk
  obtain ⟨q3, hq4, h⟩ := bd_of h
  refine hL7 n r1 p0 p1 0  _ _ _ q3 hq4 hW (lv_sub hl [1, 2, 3, 0] rfl) (fun H locs ls hW hl => ?_)
  obtain rfl := Option.some.inj h
  exact wd_vret hA hQ hC hr hk hW dX9_aimsBeat_32
def m_X9_aimsWin_L2 : Nat → St → Int32 → Int32 → Option (St)
  | 0, _, _, _ => none
  | n + 1, T, x1, x2 =>
    if 121 ≤ x2 then (some T) else (if x2 = 0 then (ck x2 121 (nm (sA T 30 x2.toNatClampNeg 0) (fun T9 => m_X9_aimsWin_L2 n T9 x1 (x2 + 1)))) else (ck x2 121 (nm (sA T 30 x2.toNatClampNeg 1000000) (fun T6 => m_X9_aimsWin_L2 n T6 x1 (x2 + 1)))))
theorem m_X9_aimsWin_L2_0 (T : St) (x1 : Int32) (x2 : Int32) : m_X9_aimsWin_L2 0 T x1 x2 = none := rfl
theorem m_X9_aimsWin_L2_s {n : Nat} {T : St} {x1 : Int32} {x2 : Int32} : m_X9_aimsWin_L2 (n + 1) T x1 x2 =
    (if 121 ≤ x2 then (some T) else (if x2 = 0 then (ck x2 121 (nm (sA T 30 x2.toNatClampNeg 0) (fun T9 => m_X9_aimsWin_L2 n T9 x1 (x2 + 1)))) else (ck x2 121 (nm (sA T 30 x2.toNatClampNeg 1000000) (fun T6 => m_X9_aimsWin_L2 n T6 x1 (x2 + 1)))))) := rfl
def m_X9_aimsWin_L56 : Nat → St → Int32 → Int32 → Int32 → Option (St)
  | 0, _, _, _, _ => none
  | n + 1, T, x1, x2, x3 =>
    if 121 ≤ x3 then (some T) else (ck x3 121 ((m_X9_beatBy T x1 x2 x3).bind (fun r21 => ck x3 121 (nm (sA T 30 x3.toNatClampNeg (((((T.2.1 30 x3.toNatClampNeg).toInt64) * r21.toInt64) / 1000000).toInt32)) (fun T24 => m_X9_aimsWin_L56 n T24 x1 x2 (x3 + 1))))))
theorem m_X9_aimsWin_L56_0 (T : St) (x1 : Int32) (x2 : Int32) (x3 : Int32) : m_X9_aimsWin_L56 0 T x1 x2 x3 = none := rfl
theorem m_X9_aimsWin_L56_s {n : Nat} {T : St} {x1 : Int32} {x2 : Int32} {x3 : Int32} : m_X9_aimsWin_L56 (n + 1) T x1 x2 x3 =
    (if 121 ≤ x3 then (some T) else (ck x3 121 ((m_X9_beatBy T x1 x2 x3).bind (fun r21 => ck x3 121 (nm (sA T 30 x3.toNatClampNeg (((((T.2.1 30 x3.toNatClampNeg).toInt64) * r21.toInt64) / 1000000).toInt32)) (fun T24 => m_X9_aimsWin_L56 n T24 x1 x2 (x3 + 1))))))) := rfl
def m_X9_aimsWin_L33 : Nat → St → Int32 → Int32 → Option (St)
  | 0, _, _, _ => none
  | n + 1, T, x1, x2 =>
    if (T.1 3) ≤ x2 then (some T) else (if x2 = x1 then (m_X9_aimsWin_L33 n T x1 (x2 + 1)) else ((m_X9_laysChances n T x2).bind (fun r15 => (m_X9_aimsWin_L56 n r15 x1 x2 0).bind (fun q17 => m_X9_aimsWin_L33 n q17 x1 (x2 + 1)))))
theorem m_X9_aimsWin_L33_0 (T : St) (x1 : Int32) (x2 : Int32) : m_X9_aimsWin_L33 0 T x1 x2 = none := rfl
theorem m_X9_aimsWin_L33_s {n : Nat} {T : St} {x1 : Int32} {x2 : Int32} : m_X9_aimsWin_L33 (n + 1) T x1 x2 =
    (if (T.1 3) ≤ x2 then (some T) else (if x2 = x1 then (m_X9_aimsWin_L33 n T x1 (x2 + 1)) else ((m_X9_laysChances n T x2).bind (fun r15 => (m_X9_aimsWin_L56 n r15 x1 x2 0).bind (fun q17 => m_X9_aimsWin_L33 n q17 x1 (x2 + 1)))))) := rfl
def m_X9_aimsWin_L103 : Nat → St → Int32 → Option (St)
  | 0, _, _ => none
  | n + 1, T, x2 =>
    if 121 ≤ x2 then (some T) else (ck x2 121 (ck x2 122 (nm (sA T 28 x2.toNatClampNeg (T.2.1 30 x2.toNatClampNeg)) (fun T31 => m_X9_aimsWin_L103 n T31 (x2 + 1)))))
theorem m_X9_aimsWin_L103_0 (T : St) (x2 : Int32) : m_X9_aimsWin_L103 0 T x2 = none := rfl
theorem m_X9_aimsWin_L103_s {n : Nat} {T : St} {x2 : Int32} : m_X9_aimsWin_L103 (n + 1) T x2 =
    (if 121 ≤ x2 then (some T) else (ck x2 121 (ck x2 122 (nm (sA T 28 x2.toNatClampNeg (T.2.1 30 x2.toNatClampNeg)) (fun T31 => m_X9_aimsWin_L103 n T31 (x2 + 1)))))) := rfl
def m_X9_aimsWin (n : Nat) (T : St) (p0 : Int32) : Option (St) :=
  (m_X9_aimsWin_L2 n T p0 0).bind (fun q1 => (m_X9_aimsWin_L33 n q1 p0 0).bind (fun q11 => (m_X9_aimsWin_L103 n q11 0).bind (fun q26 => some q26)))
set_option maxHeartbeats 4000000 in
set_option maxRecDepth 100000 in
theorem c_X9_aimsWin (l : Launch) (D : va_G) (cy : Nat → ClassId) (ad : Nat → Nat) (X : va_W) (n : Nat) (T : St) (p0 : Int32) (r : (St)) (h : m_X9_aimsWin n T p0 = some r) : CT l yX9_aimsWin (wu yX9_aimsWin cX9_aimsWin 4 none) 68 D cy [.ref (ad 0), .int p0] (wR ad cy T ++ X) (none) (wR ad cy r ++ X) := by
  refine CT.mk (cc := cX9_aimsWin) (maxL := 4) (ret := none) (own := RX9) (by decide) rfl rfl (Nat.le_of_ble_eq_true rfl) ?_
  intro p e s m args below meth c ls A Q hA hQ hC hr hk hW hl
  have hx := hC.1
  have hb := hC.2.1
  have hown := hC.2.2.2.1
  have hts := hC.2.2.2.2
  have hl : lv_has ls 4 [(0, .ref (ad 0)), (1, .int p0)] := hl
  have f62 := hts _ (wu_in w_5_20)
  have i9 := (fun w h => wu_in (inc_9 w h) : ∀ w ∈ u_ws RX9 TX9 40, w ∈ (wu yX9_aimsWin cX9_aimsWin 4 none))
  have k264 := hts _ (wu_in w_30_12)
  have f84 := hts _ (wu_in w_9_13)
  have k299 := hts _ (wu_in w_33_15)
  have f56 := hts _ (wu_in w_5_18)
  unfold m_X9_aimsWin at h
  refine lv_iconst (v := 0) hx hb dX9_aimsWin_0 (by decide) ?_
  refine lv_istore_n (lv' := [(2, .int 0), (0, .ref (ad 0)), (1, .int p0)]) hx hb dX9_aimsWin_1 rfl hl (by decide) rfl (fun ls hl => ?_)
  have hL2 : ∀ (n : Nat) (T : St) (x1 : Int32) (x2 : Int32)  (H : Heap) (locs : List Loc) (ls : Array Slot) (r : (St)), m_X9_aimsWin_L2 n T x1 x2 = some r → Wd D cy A s (wR ad cy T ++ X) H locs → lv_has ls 4 [(0, .ref (ad 0)), (1, .int x1), (2, .int x2)] → (∀ (H : Heap) (locs : List Loc) (ls : Array Slot), Wd D cy A s (wR ad cy r ++ X) H locs → lv_has ls 4 [(0, .ref (ad 0)), (1, .int x1)] → W p l e (RM 68) s m args below meth c H locs 0 0 Q (F0 m 31 ls [])) → W p l e (RM 68) s m args below meth c H locs 0 0 Q (F0 m 2 ls []) := by
    intro n
    induction n with
    | zero =>
      intro T x1 x2  H locs ls r h
      exact absurd (h.symm.trans (m_X9_aimsWin_L2_0 ..)) (by simp)
    | succ n ih =>
      intro T x1 x2  H locs ls r h hW hl kk
      rw [m_X9_aimsWin_L2_s] at h
      refine lv_iload_n hx hb dX9_aimsWin_2 rfl (lv_at hl 2 rfl) ?_
      refine lv_bipush (v := 121) hx hb dX9_aimsWin_3 (by decide) ?_
      refine lv_icmp_ge (tgt := 31) hx hb dX9_aimsWin_5 (by decide) (fun c3 => ?_) (fun c3 => ?_)
      · replace h := ite_t h c3
        obtain rfl := Option.some.inj h
        exact kk _ _ _ hW (lv_sub hl [0, 1] rfl)
      · replace h := ite_f h c3
        refine lv_aload_n hx hb dX9_aimsWin_8 rfl (lv_at hl 0 rfl) ?_
        refine wd_get hC i9 hW 0 wR_c0 rfl 30 (Nat.le_of_ble_eq_true rfl) f62 rfl rfl dX9_aimsWin_9 ?_
        refine lv_iload_n hx hb dX9_aimsWin_12 rfl (lv_at hl 2 rfl) ?_
        refine lv_iload_n hx hb dX9_aimsWin_13 rfl (lv_at hl 2 rfl) ?_
        refine lv_if_ne (tgt := 21) hx hb dX9_aimsWin_14 (by decide) (fun c4 => ?_) (fun c4 => ?_)
        · replace h := ite_f h c4
          refine lv_ldcw hx hb hown k264 dX9_aimsWin_21 ?_
          obtain ⟨hi5, h⟩ := ck_of h
          refine wd_iast hC hW 18 wR_c18 hi5 wR_t18 dX9_aimsWin_24 (fun H locs hW => ?_)
          obtain ⟨T6, e7, h⟩ := nm_of h
          replace hW := wq_T e7 hW
          refine lv_iinc (v := x2 + 1) (lv' := [(2, .int (x2 + 1)), (0, .ref (ad 0)), (1, .int x1)]) hx hb dX9_aimsWin_25 hl (k := 2) rfl rfl (by decide) rfl (fun ls hl => ?_)
          refine lv_goto (tgt := 2) hx hb dX9_aimsWin_28 (by decide) ?_
          exact ih T6 x1 (x2 + 1) _ _ _ r h hW (lv_sub hl [1, 2, 0] rfl) kk
        · replace h := ite_t h c4
          refine lv_iconst (v := 0) hx hb dX9_aimsWin_17 (by decide) ?_
          refine lv_goto (tgt := 24) hx hb dX9_aimsWin_18 (by decide) ?_
          obtain ⟨hi8, h⟩ := ck_of h
          refine wd_iast hC hW 18 wR_c18 hi8 wR_t18 dX9_aimsWin_24 (fun H locs hW => ?_)
          obtain ⟨T9, e10, h⟩ := nm_of h
          replace hW := wq_T e10 hW
          refine lv_iinc (v := x2 + 1) (lv' := [(2, .int (x2 + 1)), (0, .ref (ad 0)), (1, .int x1)]) hx hb dX9_aimsWin_25 hl (k := 2) rfl rfl (by decide) rfl (fun ls hl => ?_)
          refine lv_goto (tgt := 2) hx hb dX9_aimsWin_28 (by decide) ?_
          exact ih T9 x1 (x2 + 1) _ _ _ r h hW (lv_sub hl [1, 2, 0] rfl) kk
  obtain ⟨q1, hq2, h⟩ := bd_of h
  refine hL2 n T p0 0  _ _ _ q1 hq2 hW (lv_sub hl [1, 2, 0] rfl) (fun H locs ls hW hl => ?_)
  refine lv_iconst (v := 0) hx hb dX9_aimsWin_31 (by decide) ?_
  refine lv_istore_n (lv' := [(2, .int 0), (0, .ref (ad 0)), (1, .int p0)]) hx hb dX9_aimsWin_32 rfl hl (by decide) rfl (fun ls hl => ?_)
  have hL33 : ∀ (n : Nat) (T : St) (x1 : Int32) (x2 : Int32)  (H : Heap) (locs : List Loc) (ls : Array Slot) (r : (St)), m_X9_aimsWin_L33 n T x1 x2 = some r → Wd D cy A s (wR ad cy T ++ X) H locs → lv_has ls 4 [(0, .ref (ad 0)), (1, .int x1), (2, .int x2)] → (∀ (H : Heap) (locs : List Loc) (ls : Array Slot), Wd D cy A s (wR ad cy r ++ X) H locs → lv_has ls 4 [(0, .ref (ad 0)), (1, .int x1)] → W p l e (RM 68) s m args below meth c H locs 0 0 Q (F0 m 101 ls [])) → W p l e (RM 68) s m args below meth c H locs 0 0 Q (F0 m 33 ls []) := by
    intro n
    induction n with
    | zero =>
      intro T x1 x2  H locs ls r h
      exact absurd (h.symm.trans (m_X9_aimsWin_L33_0 ..)) (by simp)
    | succ n ih =>
      intro T x1 x2  H locs ls r h hW hl kk
      rw [m_X9_aimsWin_L33_s] at h
      refine lv_iload_n hx hb dX9_aimsWin_33 rfl (lv_at hl 2 rfl) ?_
      refine lv_aload_n hx hb dX9_aimsWin_34 rfl (lv_at hl 0 rfl) ?_
      refine wd_get hC i9 hW 0 wR_c0 rfl 3 (Nat.le_of_ble_eq_true rfl) f84 rfl rfl dX9_aimsWin_35 ?_
      refine lv_icmp_ge (tgt := 101) hx hb dX9_aimsWin_38 (by decide) (fun c13 => ?_) (fun c13 => ?_)
      · replace h := ite_t h c13
        obtain rfl := Option.some.inj h
        exact kk _ _ _ hW (lv_sub hl [0, 1] rfl)
      · replace h := ite_f h c13
        refine lv_iload_n hx hb dX9_aimsWin_41 rfl (lv_at hl 2 rfl) ?_
        refine lv_iload_n hx hb dX9_aimsWin_42 rfl (lv_at hl 1 rfl) ?_
        refine lv_icmp_ne (tgt := 49) hx hb dX9_aimsWin_43 (by decide) (fun c14 => ?_) (fun c14 => ?_)
        · replace h := ite_f h c14
          refine lv_aload_n hx hb dX9_aimsWin_49 rfl (lv_at hl 0 rfl) ?_
          refine lv_iload_n hx hb dX9_aimsWin_50 rfl (lv_at hl 2 rfl) ?_
          obtain ⟨r15, hr16, h⟩ := bd_of h
          refine wd_callV0 (As := [.int x2]) hC hW 0 wR_c0 rfl (c_X9_laysChances l D cy ad X n T x2 r15 hr16) (cwV 1 hts (gu_V w_31_11 w_31_8 w_31_9 w_31_10 w_1_5) rfl rfl rfl hdX9_laysChances ⟨Nat.le_of_ble_eq_true rfl, Nat.le_of_ble_eq_true rfl⟩) rfl hl.1 rfl (Nat.le_of_ble_eq_true rfl) ⟨Nat.zero_le _, Nat.zero_le _⟩ dX9_aimsWin_51 (fun H locs hW => ?_)
          refine lv_iconst (v := 0) hx hb dX9_aimsWin_54 (by decide) ?_
          refine lv_istore_n (lv' := [(3, .int 0), (0, .ref (ad 0)), (1, .int x1), (2, .int x2)]) hx hb dX9_aimsWin_55 rfl hl (by decide) rfl (fun ls hl => ?_)
          have hL56 : ∀ (n : Nat) (T : St) (x1 : Int32) (x2 : Int32) (x3 : Int32)  (H : Heap) (locs : List Loc) (ls : Array Slot) (r : (St)), m_X9_aimsWin_L56 n T x1 x2 x3 = some r → Wd D cy A s (wR ad cy T ++ X) H locs → lv_has ls 4 [(0, .ref (ad 0)), (1, .int x1), (2, .int x2), (3, .int x3)] → (∀ (H : Heap) (locs : List Loc) (ls : Array Slot), Wd D cy A s (wR ad cy r ++ X) H locs → lv_has ls 4 [(0, .ref (ad 0)), (1, .int x1), (2, .int x2)] → W p l e (RM 68) s m args below meth c H locs 0 0 Q (F0 m 95 ls [])) → W p l e (RM 68) s m args below meth c H locs 0 0 Q (F0 m 56 ls []) := by
            intro n
            induction n with
            | zero =>
              intro T x1 x2 x3  H locs ls r h
              exact absurd (h.symm.trans (m_X9_aimsWin_L56_0 ..)) (by simp)
            | succ n ih =>
              intro T x1 x2 x3  H locs ls r h hW hl kk
              rw [m_X9_aimsWin_L56_s] at h
              refine lv_iload_n hx hb dX9_aimsWin_56 rfl (lv_at hl 3 rfl) ?_
              refine lv_bipush (v := 121) hx hb dX9_aimsWin_57 (by decide) ?_
              refine lv_icmp_ge (tgt := 95) hx hb dX9_aimsWin_59 (by decide) (fun c19 => ?_) (fun c19 => ?_)
              · replace h := ite_t h c19
                obtain rfl := Option.some.inj h
                exact kk _ _ _ hW (lv_sub hl [0, 1, 2] rfl)
              · replace h := ite_f h c19
                refine lv_aload_n hx hb dX9_aimsWin_62 rfl (lv_at hl 0 rfl) ?_
                refine wd_get hC i9 hW 0 wR_c0 rfl 30 (Nat.le_of_ble_eq_true rfl) f62 rfl rfl dX9_aimsWin_63 ?_
                refine lv_iload_n hx hb dX9_aimsWin_66 rfl (lv_at hl 3 rfl) ?_
                refine lv_aload_n hx hb dX9_aimsWin_67 rfl (lv_at hl 0 rfl) ?_
                refine wd_get hC i9 hW 0 wR_c0 rfl 30 (Nat.le_of_ble_eq_true rfl) f62 rfl rfl dX9_aimsWin_68 ?_
                refine lv_iload_n hx hb dX9_aimsWin_71 rfl (lv_at hl 3 rfl) ?_
                obtain ⟨hi20, h⟩ := ck_of h
                refine wd_iald hC hW 18 wR_c18 hi20 dX9_aimsWin_72 ?_
                refine lv_i2l (v := (T.2.1 30 x3.toNatClampNeg).toInt64) hx hb dX9_aimsWin_73 rfl ?_
                refine lv_aload_n hx hb dX9_aimsWin_74 rfl (lv_at hl 0 rfl) ?_
                refine lv_iload_n hx hb dX9_aimsWin_75 rfl (lv_at hl 1 rfl) ?_
                refine lv_iload_n hx hb dX9_aimsWin_76 rfl (lv_at hl 2 rfl) ?_
                refine lv_iload_n hx hb dX9_aimsWin_77 rfl (lv_at hl 3 rfl) ?_
                obtain ⟨r21, hr22, h⟩ := bd_of h
                refine wd_callV1 (As := [.int x1, .int x2, .int x3]) hC hW 0 wR_c0 rfl (c_X9_beatBy l D cy ad X T x1 x2 x3 r21 hr22) (cwV 3 hts (gu_V w_32_18 w_32_15 w_32_16 w_32_17 w_1_5) rfl rfl rfl hdX9_beatBy ⟨Nat.le_of_ble_eq_true rfl, Nat.le_of_ble_eq_true rfl⟩) rfl hl.1 rfl (Nat.le_of_ble_eq_true rfl) ⟨Nat.zero_le _, Nat.zero_le _⟩ dX9_aimsWin_78 (fun H locs hW => ?_)
                refine lv_i2l (v := r21.toInt64) hx hb dX9_aimsWin_81 rfl ?_
                refine lv_lmul hx hb dX9_aimsWin_82 ?_
                refine lv_ldc2 hx hb hown k299 dX9_aimsWin_83 ?_
                refine lv_ldiv hx hb dX9_aimsWin_86 (by decide) ?_
                refine lv_l2i (v := ((((T.2.1 30 x3.toNatClampNeg).toInt64) * r21.toInt64) / 1000000).toInt32) hx hb dX9_aimsWin_87 rfl ?_
                obtain ⟨hi23, h⟩ := ck_of h
                refine wd_iast hC hW 18 wR_c18 hi23 wR_t18 dX9_aimsWin_88 (fun H locs hW => ?_)
                obtain ⟨T24, e25, h⟩ := nm_of h
                replace hW := wq_T e25 hW
                refine lv_iinc (v := x3 + 1) (lv' := [(3, .int (x3 + 1)), (0, .ref (ad 0)), (1, .int x1), (2, .int x2)]) hx hb dX9_aimsWin_89 hl (k := 3) rfl rfl (by decide) rfl (fun ls hl => ?_)
                refine lv_goto (tgt := 56) hx hb dX9_aimsWin_92 (by decide) ?_
                exact ih T24 x1 x2 (x3 + 1) _ _ _ r h hW (lv_sub hl [1, 2, 3, 0] rfl) kk
          obtain ⟨q17, hq18, h⟩ := bd_of h
          refine hL56 n r15 x1 x2 0  _ _ _ q17 hq18 hW (lv_sub hl [1, 2, 3, 0] rfl) (fun H locs ls hW hl => ?_)
          refine lv_iinc (v := x2 + 1) (lv' := [(2, .int (x2 + 1)), (0, .ref (ad 0)), (1, .int x1)]) hx hb dX9_aimsWin_95 hl (k := 2) rfl rfl (by decide) rfl (fun ls hl => ?_)
          refine lv_goto (tgt := 33) hx hb dX9_aimsWin_98 (by decide) ?_
          exact ih q17 x1 (x2 + 1) _ _ _ r h hW (lv_sub hl [1, 2, 0] rfl) kk
        · replace h := ite_t h c14
          refine lv_goto (tgt := 95) hx hb dX9_aimsWin_46 (by decide) ?_
          refine lv_iinc (v := x2 + 1) (lv' := [(2, .int (x2 + 1)), (0, .ref (ad 0)), (1, .int x1)]) hx hb dX9_aimsWin_95 hl (k := 2) rfl rfl (by decide) rfl (fun ls hl => ?_)
          refine lv_goto (tgt := 33) hx hb dX9_aimsWin_98 (by decide) ?_
          exact ih T x1 (x2 + 1) _ _ _ r h hW (lv_sub hl [1, 2, 0] rfl) kk
  obtain ⟨q11, hq12, h⟩ := bd_of h
  refine hL33 n q1 p0 0  _ _ _ q11 hq12 hW (lv_sub hl [1, 2, 0] rfl) (fun H locs ls hW hl => ?_)
  refine lv_iconst (v := 0) hx hb dX9_aimsWin_101 (by decide) ?_
  refine lv_istore_n (lv' := [(2, .int 0), (0, .ref (ad 0)), (1, .int p0)]) hx hb dX9_aimsWin_102 rfl hl (by decide) rfl (fun ls hl => ?_)
  have hL103 : ∀ (n : Nat) (T : St) (x2 : Int32)  (H : Heap) (locs : List Loc) (ls : Array Slot) (r : (St)), m_X9_aimsWin_L103 n T x2 = some r → Wd D cy A s (wR ad cy T ++ X) H locs → lv_has ls 4 [(0, .ref (ad 0)), (2, .int x2)] → (∀ (H : Heap) (locs : List Loc) (ls : Array Slot), Wd D cy A s (wR ad cy r ++ X) H locs → lv_has ls 4 [(0, .ref (ad 0))] → W p l e (RM 68) s m args below meth c H locs 0 0 Q (F0 m 127 ls [])) → W p l e (RM 68) s m args below meth c H locs 0 0 Q (F0 m 103 ls []) := by
    intro n
    induction n with
    | zero =>
      intro T x2  H locs ls r h
      exact absurd (h.symm.trans (m_X9_aimsWin_L103_0 ..)) (by simp)
    | succ n ih =>
      intro T x2  H locs ls r h hW hl kk
      rw [m_X9_aimsWin_L103_s] at h
      refine lv_iload_n hx hb dX9_aimsWin_103 rfl (lv_at hl 1 rfl) ?_
      refine lv_bipush (v := 121) hx hb dX9_aimsWin_104 (by decide) ?_
      refine lv_icmp_ge (tgt := 127) hx hb dX9_aimsWin_106 (by decide) (fun c28 => ?_) (fun c28 => ?_)
      · replace h := ite_t h c28
        obtain rfl := Option.some.inj h
        exact kk _ _ _ hW (lv_sub hl [0] rfl)
      · replace h := ite_f h c28
        refine lv_aload_n hx hb dX9_aimsWin_109 rfl (lv_at hl 0 rfl) ?_
        refine wd_get hC i9 hW 0 wR_c0 rfl 28 (Nat.le_of_ble_eq_true rfl) f56 rfl rfl dX9_aimsWin_110 ?_
        refine lv_iload_n hx hb dX9_aimsWin_113 rfl (lv_at hl 1 rfl) ?_
        refine lv_aload_n hx hb dX9_aimsWin_114 rfl (lv_at hl 0 rfl) ?_
        refine wd_get hC i9 hW 0 wR_c0 rfl 30 (Nat.le_of_ble_eq_true rfl) f62 rfl rfl dX9_aimsWin_115 ?_
        refine lv_iload_n hx hb dX9_aimsWin_118 rfl (lv_at hl 1 rfl) ?_
        obtain ⟨hi29, h⟩ := ck_of h
        refine wd_iald hC hW 18 wR_c18 hi29 dX9_aimsWin_119 ?_
        obtain ⟨hi30, h⟩ := ck_of h
        refine wd_iast hC hW 16 wR_c16 hi30 wR_t16 dX9_aimsWin_120 (fun H locs hW => ?_)
        obtain ⟨T31, e32, h⟩ := nm_of h
        replace hW := wq_T e32 hW
        refine lv_iinc (v := x2 + 1) (lv' := [(2, .int (x2 + 1)), (0, .ref (ad 0))]) hx hb dX9_aimsWin_121 hl (k := 1) rfl rfl (by decide) rfl (fun ls hl => ?_)
        refine lv_goto (tgt := 103) hx hb dX9_aimsWin_124 (by decide) ?_
        exact ih T31 (x2 + 1) _ _ _ r h hW (lv_sub hl [1, 0] rfl) kk
  obtain ⟨q26, hq27, h⟩ := bd_of h
  refine hL103 n q11 0  _ _ _ q26 hq27 hW (lv_sub hl [1, 0] rfl) (fun H locs ls hW hl => ?_)
  obtain rfl := Option.some.inj h
  exact wd_vret hA hQ hC hr hk hW dX9_aimsWin_127
def m_X9_mass (n : Nat) (T : St) (p0 : Int32) : Option (Int32 × St) :=
  nm (sI T 0 0) (fun T1 => (m_X9_isLifter T1 p0).bind (fun r3 => if r3 = 0 then (some ((-1), T1)) else ((m_X9_aimsMass n T1).bind (fun r6 => (m_X9_planNow n r6 p0).bind (fun r8 => some (r8, r6))))))
set_option maxHeartbeats 4000000 in
set_option maxRecDepth 100000 in
theorem c_X9_mass (l : Launch) (D : va_G) (cy : Nat → ClassId) (ad : Nat → Nat) (X : va_W) (n : Nat) (T : St) (p0 : Int32) (r : (Int32 × St)) (h : m_X9_mass n T p0 = some r) : CT l yX9_mass (wu yX9_mass cX9_mass 2 (some .int)) 66 D cy [.ref (ad 0), .int p0] (wR ad cy T ++ X) (some (.int r.1)) (wR ad cy r.2 ++ X) := by
  refine CT.mk (cc := cX9_mass) (maxL := 2) (ret := (some .int)) (own := RX9) (by decide) rfl rfl (Nat.le_of_ble_eq_true rfl) ?_
  intro p e s m args below meth c ls A Q hA hQ hC hr hk hW hl
  have hx := hC.1
  have hb := hC.2.1
  have hown := hC.2.2.2.1
  have hts := hC.2.2.2.2
  have hl : lv_has ls 2 [(0, .ref (ad 0)), (1, .int p0)] := hl
  have f77 := hts _ (wu_in w_6_14)
  have i9 := (fun w h => wu_in (inc_9 w h) : ∀ w ∈ u_ws RX9 TX9 40, w ∈ (wu yX9_mass cX9_mass 2 (some .int)))
  unfold m_X9_mass at h
  refine lv_aload_n hx hb dX9_mass_0 rfl (lv_at hl 0 rfl) ?_
  refine lv_iconst (v := 0) hx hb dX9_mass_1 (by decide) ?_
  refine wd_put hC i9 tyX9_ok nmX9 hW 0 wR_c0 rfl 0 (Nat.le_of_ble_eq_true rfl) f77 rfl rfl rfl rfl (Nat.le_of_ble_eq_true rfl) wR_s0_0 dX9_mass_2 (fun H locs hW => ?_)
  obtain ⟨T1, e2, h⟩ := nm_of h
  replace hW := wq_T e2 hW
  refine lv_aload_n hx hb dX9_mass_5 rfl (lv_at hl 0 rfl) ?_
  refine lv_iload_n hx hb dX9_mass_6 rfl (lv_at hl 1 rfl) ?_
  obtain ⟨r3, hr4, h⟩ := bd_of h
  refine wd_callV1 (As := [.int p0]) hC hW 0 wR_c0 rfl (c_X9_isLifter l D cy ad X T1 p0 r3 hr4) (cwV 1 hts (gu_V w_14_5 w_14_2 w_14_3 w_14_4 w_1_5) rfl rfl rfl hdX9_isLifter ⟨Nat.le_of_ble_eq_true rfl, Nat.le_of_ble_eq_true rfl⟩) rfl hl.1 rfl (Nat.le_of_ble_eq_true rfl) ⟨Nat.zero_le _, Nat.zero_le _⟩ dX9_mass_7 (fun H locs hW => ?_)
  refine lv_if_ne (tgt := 15) hx hb dX9_mass_10 (by decide) (fun c5 => ?_) (fun c5 => ?_)
  · replace h := ite_f h c5
    refine lv_aload_n hx hb dX9_mass_15 rfl (lv_at hl 0 rfl) ?_
    obtain ⟨r6, hr7, h⟩ := bd_of h
    refine wd_callV0 (As := []) hC hW 0 wR_c0 rfl (c_X9_aimsMass l D cy ad X n T1 r6 hr7) (cwV 0 hts (gu_V w_28_7 w_28_4 w_28_5 w_28_6 w_1_5) rfl rfl rfl hdX9_aimsMass ⟨Nat.le_of_ble_eq_true rfl, Nat.le_of_ble_eq_true rfl⟩) rfl hl.1 rfl (Nat.le_of_ble_eq_true rfl) ⟨Nat.zero_le _, Nat.zero_le _⟩ dX9_mass_16 (fun H locs hW => ?_)
    refine lv_aload_n hx hb dX9_mass_19 rfl (lv_at hl 0 rfl) ?_
    refine lv_iload_n hx hb dX9_mass_20 rfl (lv_at hl 1 rfl) ?_
    obtain ⟨r8, hr9, h⟩ := bd_of h
    refine wd_callV1 (As := [.int p0]) hC hW 0 wR_c0 rfl (c_X9_planNow l D cy ad X n r6 p0 r8 hr9) (cwV 1 hts (gu_V w_28_11 w_28_8 w_28_9 w_28_10 w_1_5) rfl rfl rfl hdX9_planNow ⟨Nat.le_of_ble_eq_true rfl, Nat.le_of_ble_eq_true rfl⟩) rfl hl.1 rfl (Nat.le_of_ble_eq_true rfl) ⟨Nat.zero_le _, Nat.zero_le _⟩ dX9_mass_21 (fun H locs hW => ?_)
    obtain rfl := Option.some.inj h
    exact wd_iret hA hQ hC hr hk hW dX9_mass_24
  · replace h := ite_t h c5
    refine lv_iconst (v := (-1)) hx hb dX9_mass_13 (by decide) ?_
    obtain rfl := Option.some.inj h
    exact wd_iret hA hQ hC hr hk hW dX9_mass_14
def m_X9_chance (n : Nat) (T : St) (p0 : Int32) (p1 : Int32) : Option (Int32 × St) :=
  nm (sI T 0 0) (fun T1 => (m_X9_isLifter T1 p0).bind (fun r3 => if r3 = 0 then (some ((-1), T1)) else ((m_X9_isTotal T1 p1).bind (fun r6 => if r6 = 0 then (some ((-1), T1)) else ((m_X9_chanceOf n T1 p0 p1).bind (fun r9 => some (r9.1, r9.2)))))))
set_option maxHeartbeats 4000000 in
set_option maxRecDepth 100000 in
theorem c_X9_chance (l : Launch) (D : va_G) (cy : Nat → ClassId) (ad : Nat → Nat) (X : va_W) (n : Nat) (T : St) (p0 : Int32) (p1 : Int32) (r : (Int32 × St)) (h : m_X9_chance n T p0 p1 = some r) : CT l yX9_chance (wu yX9_chance cX9_chance 3 (some .int)) 67 D cy [.ref (ad 0), .int p0, .int p1] (wR ad cy T ++ X) (some (.int r.1)) (wR ad cy r.2 ++ X) := by
  refine CT.mk (cc := cX9_chance) (maxL := 3) (ret := (some .int)) (own := RX9) (by decide) rfl rfl (Nat.le_of_ble_eq_true rfl) ?_
  intro p e s m args below meth c ls A Q hA hQ hC hr hk hW hl
  have hx := hC.1
  have hb := hC.2.1
  have hown := hC.2.2.2.1
  have hts := hC.2.2.2.2
  have hl : lv_has ls 3 [(0, .ref (ad 0)), (1, .int p0), (2, .int p1)] := hl
  have f77 := hts _ (wu_in w_6_14)
  have i9 := (fun w h => wu_in (inc_9 w h) : ∀ w ∈ u_ws RX9 TX9 40, w ∈ (wu yX9_chance cX9_chance 3 (some .int)))
  unfold m_X9_chance at h
  refine lv_aload_n hx hb dX9_chance_0 rfl (lv_at hl 0 rfl) ?_
  refine lv_iconst (v := 0) hx hb dX9_chance_1 (by decide) ?_
  refine wd_put hC i9 tyX9_ok nmX9 hW 0 wR_c0 rfl 0 (Nat.le_of_ble_eq_true rfl) f77 rfl rfl rfl rfl (Nat.le_of_ble_eq_true rfl) wR_s0_0 dX9_chance_2 (fun H locs hW => ?_)
  obtain ⟨T1, e2, h⟩ := nm_of h
  replace hW := wq_T e2 hW
  refine lv_aload_n hx hb dX9_chance_5 rfl (lv_at hl 0 rfl) ?_
  refine lv_iload_n hx hb dX9_chance_6 rfl (lv_at hl 1 rfl) ?_
  obtain ⟨r3, hr4, h⟩ := bd_of h
  refine wd_callV1 (As := [.int p0]) hC hW 0 wR_c0 rfl (c_X9_isLifter l D cy ad X T1 p0 r3 hr4) (cwV 1 hts (gu_V w_14_5 w_14_2 w_14_3 w_14_4 w_1_5) rfl rfl rfl hdX9_isLifter ⟨Nat.le_of_ble_eq_true rfl, Nat.le_of_ble_eq_true rfl⟩) rfl hl.1 rfl (Nat.le_of_ble_eq_true rfl) ⟨Nat.zero_le _, Nat.zero_le _⟩ dX9_chance_7 (fun H locs hW => ?_)
  refine lv_if_eq (tgt := 29) hx hb dX9_chance_10 (by decide) (fun c5 => ?_) (fun c5 => ?_)
  · replace h := ite_t h c5
    refine lv_iconst (v := (-1)) hx hb dX9_chance_29 (by decide) ?_
    obtain rfl := Option.some.inj h
    exact wd_iret hA hQ hC hr hk hW dX9_chance_30
  · replace h := ite_f h c5
    refine lv_iload_n hx hb dX9_chance_13 rfl (lv_at hl 2 rfl) ?_
    obtain ⟨r6, hr7, h⟩ := bd_of h
    refine wd_callS1 (As := [.int p1]) hC hW (c_X9_isTotal l D cy ad X T1 p1 r6 hr7) (va_cwS 1 hts (gu_S w_30_2 w_30_0 w_30_1 w_1_5) rfl rfl rfl hdX9_isTotal ⟨Nat.le_of_ble_eq_true rfl, Nat.le_of_ble_eq_true rfl⟩) rfl hl.1 rfl (Nat.le_of_ble_eq_true rfl) ⟨Nat.zero_le _, Nat.zero_le _⟩ dX9_chance_14 (fun H locs hW => ?_)
    refine lv_if_eq (tgt := 29) hx hb dX9_chance_17 (by decide) (fun c8 => ?_) (fun c8 => ?_)
    · replace h := ite_t h c8
      refine lv_iconst (v := (-1)) hx hb dX9_chance_29 (by decide) ?_
      obtain rfl := Option.some.inj h
      exact wd_iret hA hQ hC hr hk hW dX9_chance_30
    · replace h := ite_f h c8
      refine lv_aload_n hx hb dX9_chance_20 rfl (lv_at hl 0 rfl) ?_
      refine lv_iload_n hx hb dX9_chance_21 rfl (lv_at hl 1 rfl) ?_
      refine lv_iload_n hx hb dX9_chance_22 rfl (lv_at hl 2 rfl) ?_
      obtain ⟨r9, hr10, h⟩ := bd_of h
      refine wd_callV1 (As := [.int p0, .int p1]) hC hW 0 wR_c0 rfl (c_X9_chanceOf l D cy ad X n T1 p0 p1 r9 hr10) (cwV 2 hts (gu_V w_30_7 w_30_4 w_30_5 w_30_6 w_1_5) rfl rfl rfl hdX9_chanceOf ⟨Nat.le_of_ble_eq_true rfl, Nat.le_of_ble_eq_true rfl⟩) rfl hl.1 rfl (Nat.le_of_ble_eq_true rfl) ⟨Nat.zero_le _, Nat.zero_le _⟩ dX9_chance_23 (fun H locs hW => ?_)
      refine lv_goto (tgt := 30) hx hb dX9_chance_26 (by decide) ?_
      obtain rfl := Option.some.inj h
      exact wd_iret hA hQ hC hr hk hW dX9_chance_30
def m_X9_likeliest_L24 : Nat → St → Int32 → Int32 → Option (Int32)
  | 0, _, _, _ => none
  | n + 1, r6, x2, x3 =>
    if 121 ≤ x3 then (some x2) else (ck x3 122 (ck (x3 + 1) 122 (ck x2 122 (ck (x2 + 1) 122 (if ((r6.2.1 29 x3.toNatClampNeg) - (r6.2.1 29 (x3 + 1).toNatClampNeg)) ≤ ((r6.2.1 29 x2.toNatClampNeg) - (r6.2.1 29 (x2 + 1).toNatClampNeg)) then (m_X9_likeliest_L24 n r6 x2 (x3 + 1)) else (m_X9_likeliest_L24 n r6 x3 (x3 + 1)))))))
theorem m_X9_likeliest_L24_0 (r6 : St) (x2 : Int32) (x3 : Int32) : m_X9_likeliest_L24 0 r6 x2 x3 = none := rfl
theorem m_X9_likeliest_L24_s {n : Nat} {r6 : St} {x2 : Int32} {x3 : Int32} : m_X9_likeliest_L24 (n + 1) r6 x2 x3 =
    (if 121 ≤ x3 then (some x2) else (ck x3 122 (ck (x3 + 1) 122 (ck x2 122 (ck (x2 + 1) 122 (if ((r6.2.1 29 x3.toNatClampNeg) - (r6.2.1 29 (x3 + 1).toNatClampNeg)) ≤ ((r6.2.1 29 x2.toNatClampNeg) - (r6.2.1 29 (x2 + 1).toNatClampNeg)) then (m_X9_likeliest_L24 n r6 x2 (x3 + 1)) else (m_X9_likeliest_L24 n r6 x3 (x3 + 1)))))))) := rfl
def m_X9_likeliest (n : Nat) (T : St) (p0 : Int32) : Option (Int32 × St) :=
  nm (sI T 0 0) (fun T1 => (m_X9_isLifter T1 p0).bind (fun r3 => if r3 = 0 then (some ((-1), T1)) else ((m_X9_laysChances n T1 p0).bind (fun r6 => (m_X9_likeliest_L24 n r6 0 1).bind (fun q8 => nm (sI r6 1 0) (fun T16 => ck q8 122 (ck (q8 + 1) 122 ((m_X9_notes T16 (((T16.2.1 29 q8.toNatClampNeg) - (T16.2.1 29 (q8 + 1).toNatClampNeg)).toInt64)).bind (fun r20 => ck 1 122 ((m_X9_notes r20 ((r20.2.1 29 ((1 : Int32).toNatClampNeg)).toInt64)).bind (fun r23 => some (q8, r23))))))))))))
set_option maxHeartbeats 4000000 in
set_option maxRecDepth 100000 in
theorem c_X9_likeliest (l : Launch) (D : va_G) (cy : Nat → ClassId) (ad : Nat → Nat) (X : va_W) (n : Nat) (T : St) (p0 : Int32) (r : (Int32 × St)) (h : m_X9_likeliest n T p0 = some r) : CT l yX9_likeliest (wu yX9_likeliest cX9_likeliest 4 (some .int)) 68 D cy [.ref (ad 0), .int p0] (wR ad cy T ++ X) (some (.int r.1)) (wR ad cy r.2 ++ X) := by
  refine CT.mk (cc := cX9_likeliest) (maxL := 4) (ret := (some .int)) (own := RX9) (by decide) rfl rfl (Nat.le_of_ble_eq_true rfl) ?_
  intro p e s m args below meth c ls A Q hA hQ hC hr hk hW hl
  have hx := hC.1
  have hb := hC.2.1
  have hown := hC.2.2.2.1
  have hts := hC.2.2.2.2
  have hl : lv_has ls 4 [(0, .ref (ad 0)), (1, .int p0)] := hl
  have f77 := hts _ (wu_in w_6_14)
  have i9 := (fun w h => wu_in (inc_9 w h) : ∀ w ∈ u_ws RX9 TX9 40, w ∈ (wu yX9_likeliest cX9_likeliest 4 (some .int)))
  have f59 := hts _ (wu_in w_5_19)
  have f81 := hts _ (wu_in w_19_2)
  unfold m_X9_likeliest at h
  refine lv_aload_n hx hb dX9_likeliest_0 rfl (lv_at hl 0 rfl) ?_
  refine lv_iconst (v := 0) hx hb dX9_likeliest_1 (by decide) ?_
  refine wd_put hC i9 tyX9_ok nmX9 hW 0 wR_c0 rfl 0 (Nat.le_of_ble_eq_true rfl) f77 rfl rfl rfl rfl (Nat.le_of_ble_eq_true rfl) wR_s0_0 dX9_likeliest_2 (fun H locs hW => ?_)
  obtain ⟨T1, e2, h⟩ := nm_of h
  replace hW := wq_T e2 hW
  refine lv_aload_n hx hb dX9_likeliest_5 rfl (lv_at hl 0 rfl) ?_
  refine lv_iload_n hx hb dX9_likeliest_6 rfl (lv_at hl 1 rfl) ?_
  obtain ⟨r3, hr4, h⟩ := bd_of h
  refine wd_callV1 (As := [.int p0]) hC hW 0 wR_c0 rfl (c_X9_isLifter l D cy ad X T1 p0 r3 hr4) (cwV 1 hts (gu_V w_14_5 w_14_2 w_14_3 w_14_4 w_1_5) rfl rfl rfl hdX9_isLifter ⟨Nat.le_of_ble_eq_true rfl, Nat.le_of_ble_eq_true rfl⟩) rfl hl.1 rfl (Nat.le_of_ble_eq_true rfl) ⟨Nat.zero_le _, Nat.zero_le _⟩ dX9_likeliest_7 (fun H locs hW => ?_)
  refine lv_if_ne (tgt := 15) hx hb dX9_likeliest_10 (by decide) (fun c5 => ?_) (fun c5 => ?_)
  · replace h := ite_f h c5
    refine lv_aload_n hx hb dX9_likeliest_15 rfl (lv_at hl 0 rfl) ?_
    refine lv_iload_n hx hb dX9_likeliest_16 rfl (lv_at hl 1 rfl) ?_
    obtain ⟨r6, hr7, h⟩ := bd_of h
    refine wd_callV0 (As := [.int p0]) hC hW 0 wR_c0 rfl (c_X9_laysChances l D cy ad X n T1 p0 r6 hr7) (cwV 1 hts (gu_V w_31_11 w_31_8 w_31_9 w_31_10 w_1_5) rfl rfl rfl hdX9_laysChances ⟨Nat.le_of_ble_eq_true rfl, Nat.le_of_ble_eq_true rfl⟩) rfl hl.1 rfl (Nat.le_of_ble_eq_true rfl) ⟨Nat.zero_le _, Nat.zero_le _⟩ dX9_likeliest_17 (fun H locs hW => ?_)
    refine lv_iconst (v := 0) hx hb dX9_likeliest_20 (by decide) ?_
    refine lv_istore_n (lv' := [(2, .int 0), (0, .ref (ad 0)), (1, .int p0)]) hx hb dX9_likeliest_21 rfl hl (by decide) rfl (fun ls hl => ?_)
    refine lv_iconst (v := 1) hx hb dX9_likeliest_22 (by decide) ?_
    refine lv_istore_n (lv' := [(3, .int 1), (2, .int 0), (0, .ref (ad 0)), (1, .int p0)]) hx hb dX9_likeliest_23 rfl hl (by decide) rfl (fun ls hl => ?_)
    have hL24 : ∀ (n : Nat) (x2 : Int32) (x3 : Int32)  (H : Heap) (locs : List Loc) (ls : Array Slot) (r : (Int32)), m_X9_likeliest_L24 n r6 x2 x3 = some r → Wd D cy A s (wR ad cy r6 ++ X) H locs → lv_has ls 4 [(0, .ref (ad 0)), (2, .int x2), (3, .int x3)] → (∀ (H : Heap) (locs : List Loc) (ls : Array Slot), Wd D cy A s (wR ad cy r6 ++ X) H locs → lv_has ls 4 [(0, .ref (ad 0)), (2, .int r)] → W p l e (RM 68) s m args below meth c H locs 0 0 Q (F0 m 75 ls [])) → W p l e (RM 68) s m args below meth c H locs 0 0 Q (F0 m 24 ls []) := by
      intro n
      induction n with
      | zero =>
        intro x2 x3  H locs ls r h
        exact absurd (h.symm.trans (m_X9_likeliest_L24_0 ..)) (by simp)
      | succ n ih =>
        intro x2 x3  H locs ls r h hW hl kk
        rw [m_X9_likeliest_L24_s] at h
        refine lv_iload_n hx hb dX9_likeliest_24 rfl (lv_at hl 2 rfl) ?_
        refine lv_bipush (v := 121) hx hb dX9_likeliest_25 (by decide) ?_
        refine lv_icmp_ge (tgt := 75) hx hb dX9_likeliest_27 (by decide) (fun c10 => ?_) (fun c10 => ?_)
        · replace h := ite_t h c10
          obtain rfl := Option.some.inj h
          exact kk _ _ _ hW (lv_sub hl [0, 1] rfl)
        · replace h := ite_f h c10
          refine lv_aload_n hx hb dX9_likeliest_30 rfl (lv_at hl 0 rfl) ?_
          refine wd_get hC i9 hW 0 wR_c0 rfl 29 (Nat.le_of_ble_eq_true rfl) f59 rfl rfl dX9_likeliest_31 ?_
          refine lv_iload_n hx hb dX9_likeliest_34 rfl (lv_at hl 2 rfl) ?_
          obtain ⟨hi11, h⟩ := ck_of h
          refine wd_iald hC hW 17 wR_c17 hi11 dX9_likeliest_35 ?_
          refine lv_aload_n hx hb dX9_likeliest_36 rfl (lv_at hl 0 rfl) ?_
          refine wd_get hC i9 hW 0 wR_c0 rfl 29 (Nat.le_of_ble_eq_true rfl) f59 rfl rfl dX9_likeliest_37 ?_
          refine lv_iload_n hx hb dX9_likeliest_40 rfl (lv_at hl 2 rfl) ?_
          refine lv_iconst (v := 1) hx hb dX9_likeliest_41 (by decide) ?_
          refine lv_iadd hx hb dX9_likeliest_42 ?_
          obtain ⟨hi12, h⟩ := ck_of h
          refine wd_iald hC hW 17 wR_c17 hi12 dX9_likeliest_43 ?_
          refine lv_isub hx hb dX9_likeliest_44 ?_
          refine lv_aload_n hx hb dX9_likeliest_45 rfl (lv_at hl 0 rfl) ?_
          refine wd_get hC i9 hW 0 wR_c0 rfl 29 (Nat.le_of_ble_eq_true rfl) f59 rfl rfl dX9_likeliest_46 ?_
          refine lv_iload_n hx hb dX9_likeliest_49 rfl (lv_at hl 1 rfl) ?_
          obtain ⟨hi13, h⟩ := ck_of h
          refine wd_iald hC hW 17 wR_c17 hi13 dX9_likeliest_50 ?_
          refine lv_aload_n hx hb dX9_likeliest_51 rfl (lv_at hl 0 rfl) ?_
          refine wd_get hC i9 hW 0 wR_c0 rfl 29 (Nat.le_of_ble_eq_true rfl) f59 rfl rfl dX9_likeliest_52 ?_
          refine lv_iload_n hx hb dX9_likeliest_55 rfl (lv_at hl 1 rfl) ?_
          refine lv_iconst (v := 1) hx hb dX9_likeliest_56 (by decide) ?_
          refine lv_iadd hx hb dX9_likeliest_57 ?_
          obtain ⟨hi14, h⟩ := ck_of h
          refine wd_iald hC hW 17 wR_c17 hi14 dX9_likeliest_58 ?_
          refine lv_isub hx hb dX9_likeliest_59 ?_
          refine lv_icmp_le (tgt := 67) hx hb dX9_likeliest_60 (by decide) (fun c15 => ?_) (fun c15 => ?_)
          · replace h := ite_t h c15
            refine lv_iload_n hx hb dX9_likeliest_67 rfl (lv_at hl 1 rfl) ?_
            refine lv_istore_n (lv' := [(2, .int x2), (0, .ref (ad 0)), (3, .int x3)]) hx hb dX9_likeliest_68 rfl hl (by decide) rfl (fun ls hl => ?_)
            refine lv_iinc (v := x3 + 1) (lv' := [(3, .int (x3 + 1)), (2, .int x2), (0, .ref (ad 0))]) hx hb dX9_likeliest_69 hl (k := 2) rfl rfl (by decide) rfl (fun ls hl => ?_)
            refine lv_goto (tgt := 24) hx hb dX9_likeliest_72 (by decide) ?_
            exact ih x2 (x3 + 1) _ _ _ r h hW (lv_sub hl [2, 1, 0] rfl) kk
          · replace h := ite_f h c15
            refine lv_iload_n hx hb dX9_likeliest_63 rfl (lv_at hl 2 rfl) ?_
            refine lv_goto (tgt := 68) hx hb dX9_likeliest_64 (by decide) ?_
            refine lv_istore_n (lv' := [(2, .int x3), (0, .ref (ad 0)), (3, .int x3)]) hx hb dX9_likeliest_68 rfl hl (by decide) rfl (fun ls hl => ?_)
            refine lv_iinc (v := x3 + 1) (lv' := [(3, .int (x3 + 1)), (2, .int x3), (0, .ref (ad 0))]) hx hb dX9_likeliest_69 hl (k := 2) rfl rfl (by decide) rfl (fun ls hl => ?_)
            refine lv_goto (tgt := 24) hx hb dX9_likeliest_72 (by decide) ?_
            exact ih x3 (x3 + 1) _ _ _ r h hW (lv_sub hl [2, 1, 0] rfl) kk
    obtain ⟨q8, hq9, h⟩ := bd_of h
    refine hL24 n 0 1  _ _ _ q8 hq9 hW (lv_sub hl [2, 1, 0] rfl) (fun H locs ls hW hl => ?_)
    refine lv_aload_n hx hb dX9_likeliest_75 rfl (lv_at hl 0 rfl) ?_
    refine lv_iconst (v := 0) hx hb dX9_likeliest_76 (by decide) ?_
    refine wd_put hC i9 tyX9_ok nmX9 hW 0 wR_c0 rfl 1 (Nat.le_of_ble_eq_true rfl) f81 rfl rfl rfl rfl (Nat.le_of_ble_eq_true rfl) wR_s0_1 dX9_likeliest_77 (fun H locs hW => ?_)
    obtain ⟨T16, e17, h⟩ := nm_of h
    replace hW := wq_T e17 hW
    refine lv_aload_n hx hb dX9_likeliest_80 rfl (lv_at hl 0 rfl) ?_
    refine lv_aload_n hx hb dX9_likeliest_81 rfl (lv_at hl 0 rfl) ?_
    refine wd_get hC i9 hW 0 wR_c0 rfl 29 (Nat.le_of_ble_eq_true rfl) f59 rfl rfl dX9_likeliest_82 ?_
    refine lv_iload_n hx hb dX9_likeliest_85 rfl (lv_at hl 1 rfl) ?_
    obtain ⟨hi18, h⟩ := ck_of h
    refine wd_iald hC hW 17 wR_c17 hi18 dX9_likeliest_86 ?_
    refine lv_aload_n hx hb dX9_likeliest_87 rfl (lv_at hl 0 rfl) ?_
    refine wd_get hC i9 hW 0 wR_c0 rfl 29 (Nat.le_of_ble_eq_true rfl) f59 rfl rfl dX9_likeliest_88 ?_
    refine lv_iload_n hx hb dX9_likeliest_91 rfl (lv_at hl 1 rfl) ?_
    refine lv_iconst (v := 1) hx hb dX9_likeliest_92 (by decide) ?_
    refine lv_iadd hx hb dX9_likeliest_93 ?_
    obtain ⟨hi19, h⟩ := ck_of h
    refine wd_iald hC hW 17 wR_c17 hi19 dX9_likeliest_94 ?_
    refine lv_isub hx hb dX9_likeliest_95 ?_
    refine lv_i2l (v := ((T16.2.1 29 q8.toNatClampNeg) - (T16.2.1 29 (q8 + 1).toNatClampNeg)).toInt64) hx hb dX9_likeliest_96 rfl ?_
    obtain ⟨r20, hr21, h⟩ := bd_of h
    refine wd_callV0 (As := [.long (((T16.2.1 29 q8.toNatClampNeg) - (T16.2.1 29 (q8 + 1).toNatClampNeg)).toInt64)]) hC hW 0 wR_c0 rfl (c_X9_notes l D cy ad X T16 (((T16.2.1 29 q8.toNatClampNeg) - (T16.2.1 29 (q8 + 1).toNatClampNeg)).toInt64) r20 hr21) (cwV 1 hts (gu_V w_19_14 w_19_11 w_19_12 w_19_13 w_1_5) rfl rfl rfl hdX9_notes ⟨Nat.le_of_ble_eq_true rfl, Nat.le_of_ble_eq_true rfl⟩) rfl hl.1 rfl (Nat.le_of_ble_eq_true rfl) ⟨Nat.zero_le _, Nat.zero_le _⟩ dX9_likeliest_97 (fun H locs hW => ?_)
    refine lv_aload_n hx hb dX9_likeliest_100 rfl (lv_at hl 0 rfl) ?_
    refine lv_aload_n hx hb dX9_likeliest_101 rfl (lv_at hl 0 rfl) ?_
    refine wd_get hC i9 hW 0 wR_c0 rfl 29 (Nat.le_of_ble_eq_true rfl) f59 rfl rfl dX9_likeliest_102 ?_
    refine lv_iconst (v := 1) hx hb dX9_likeliest_105 (by decide) ?_
    obtain ⟨hi22, h⟩ := ck_of h
    refine wd_iald hC hW 17 wR_c17 hi22 dX9_likeliest_106 ?_
    refine lv_i2l (v := (r20.2.1 29 ((1 : Int32).toNatClampNeg)).toInt64) hx hb dX9_likeliest_107 rfl ?_
    obtain ⟨r23, hr24, h⟩ := bd_of h
    refine wd_callV0 (As := [.long ((r20.2.1 29 ((1 : Int32).toNatClampNeg)).toInt64)]) hC hW 0 wR_c0 rfl (c_X9_notes l D cy ad X r20 ((r20.2.1 29 ((1 : Int32).toNatClampNeg)).toInt64) r23 hr24) (cwV 1 hts (gu_V w_19_14 w_19_11 w_19_12 w_19_13 w_1_5) rfl rfl rfl hdX9_notes ⟨Nat.le_of_ble_eq_true rfl, Nat.le_of_ble_eq_true rfl⟩) rfl hl.1 rfl (Nat.le_of_ble_eq_true rfl) ⟨Nat.zero_le _, Nat.zero_le _⟩ dX9_likeliest_108 (fun H locs hW => ?_)
    refine lv_iload_n hx hb dX9_likeliest_111 rfl (lv_at hl 1 rfl) ?_
    obtain rfl := Option.some.inj h
    exact wd_iret hA hQ hC hr hk hW dX9_likeliest_112
  · replace h := ite_t h c5
    refine lv_iconst (v := (-1)) hx hb dX9_likeliest_13 (by decide) ?_
    obtain rfl := Option.some.inj h
    exact wd_iret hA hQ hC hr hk hW dX9_likeliest_14
def m_X9_beats (n : Nat) (T : St) (p0 : Int32) (p1 : Int32) : Option (Int32 × St) :=
  nm (sI T 0 0) (fun T1 => (m_X9_isLifter T1 p0).bind (fun r3 => if r3 = 0 then (some ((-1), T1)) else ((m_X9_isLifter T1 p1).bind (fun r6 => if r6 = 0 then (some ((-1), T1)) else (if p0 = p1 then (some ((-1), T1)) else ((m_X9_aimsBeat n T1 p0 p1).bind (fun r10 => (m_X9_planNow n r10 p0).bind (fun r12 => some (r12, r10)))))))))
set_option maxHeartbeats 4000000 in
set_option maxRecDepth 100000 in
theorem c_X9_beats (l : Launch) (D : va_G) (cy : Nat → ClassId) (ad : Nat → Nat) (X : va_W) (n : Nat) (T : St) (p0 : Int32) (p1 : Int32) (r : (Int32 × St)) (h : m_X9_beats n T p0 p1 = some r) : CT l yX9_beats (wu yX9_beats cX9_beats 3 (some .int)) 69 D cy [.ref (ad 0), .int p0, .int p1] (wR ad cy T ++ X) (some (.int r.1)) (wR ad cy r.2 ++ X) := by
  refine CT.mk (cc := cX9_beats) (maxL := 3) (ret := (some .int)) (own := RX9) (by decide) rfl rfl (Nat.le_of_ble_eq_true rfl) ?_
  intro p e s m args below meth c ls A Q hA hQ hC hr hk hW hl
  have hx := hC.1
  have hb := hC.2.1
  have hown := hC.2.2.2.1
  have hts := hC.2.2.2.2
  have hl : lv_has ls 3 [(0, .ref (ad 0)), (1, .int p0), (2, .int p1)] := hl
  have f77 := hts _ (wu_in w_6_14)
  have i9 := (fun w h => wu_in (inc_9 w h) : ∀ w ∈ u_ws RX9 TX9 40, w ∈ (wu yX9_beats cX9_beats 3 (some .int)))
  unfold m_X9_beats at h
  refine lv_aload_n hx hb dX9_beats_0 rfl (lv_at hl 0 rfl) ?_
  refine lv_iconst (v := 0) hx hb dX9_beats_1 (by decide) ?_
  refine wd_put hC i9 tyX9_ok nmX9 hW 0 wR_c0 rfl 0 (Nat.le_of_ble_eq_true rfl) f77 rfl rfl rfl rfl (Nat.le_of_ble_eq_true rfl) wR_s0_0 dX9_beats_2 (fun H locs hW => ?_)
  obtain ⟨T1, e2, h⟩ := nm_of h
  replace hW := wq_T e2 hW
  refine lv_aload_n hx hb dX9_beats_5 rfl (lv_at hl 0 rfl) ?_
  refine lv_iload_n hx hb dX9_beats_6 rfl (lv_at hl 1 rfl) ?_
  obtain ⟨r3, hr4, h⟩ := bd_of h
  refine wd_callV1 (As := [.int p0]) hC hW 0 wR_c0 rfl (c_X9_isLifter l D cy ad X T1 p0 r3 hr4) (cwV 1 hts (gu_V w_14_5 w_14_2 w_14_3 w_14_4 w_1_5) rfl rfl rfl hdX9_isLifter ⟨Nat.le_of_ble_eq_true rfl, Nat.le_of_ble_eq_true rfl⟩) rfl hl.1 rfl (Nat.le_of_ble_eq_true rfl) ⟨Nat.zero_le _, Nat.zero_le _⟩ dX9_beats_7 (fun H locs hW => ?_)
  refine lv_if_eq (tgt := 26) hx hb dX9_beats_10 (by decide) (fun c5 => ?_) (fun c5 => ?_)
  · replace h := ite_t h c5
    refine lv_iconst (v := (-1)) hx hb dX9_beats_26 (by decide) ?_
    obtain rfl := Option.some.inj h
    exact wd_iret hA hQ hC hr hk hW dX9_beats_27
  · replace h := ite_f h c5
    refine lv_aload_n hx hb dX9_beats_13 rfl (lv_at hl 0 rfl) ?_
    refine lv_iload_n hx hb dX9_beats_14 rfl (lv_at hl 2 rfl) ?_
    obtain ⟨r6, hr7, h⟩ := bd_of h
    refine wd_callV1 (As := [.int p1]) hC hW 0 wR_c0 rfl (c_X9_isLifter l D cy ad X T1 p1 r6 hr7) (cwV 1 hts (gu_V w_14_5 w_14_2 w_14_3 w_14_4 w_1_5) rfl rfl rfl hdX9_isLifter ⟨Nat.le_of_ble_eq_true rfl, Nat.le_of_ble_eq_true rfl⟩) rfl hl.1 rfl (Nat.le_of_ble_eq_true rfl) ⟨Nat.zero_le _, Nat.zero_le _⟩ dX9_beats_15 (fun H locs hW => ?_)
    refine lv_if_eq (tgt := 26) hx hb dX9_beats_18 (by decide) (fun c8 => ?_) (fun c8 => ?_)
    · replace h := ite_t h c8
      refine lv_iconst (v := (-1)) hx hb dX9_beats_26 (by decide) ?_
      obtain rfl := Option.some.inj h
      exact wd_iret hA hQ hC hr hk hW dX9_beats_27
    · replace h := ite_f h c8
      refine lv_iload_n hx hb dX9_beats_21 rfl (lv_at hl 1 rfl) ?_
      refine lv_iload_n hx hb dX9_beats_22 rfl (lv_at hl 2 rfl) ?_
      refine lv_icmp_ne (tgt := 28) hx hb dX9_beats_23 (by decide) (fun c9 => ?_) (fun c9 => ?_)
      · replace h := ite_f h c9
        refine lv_aload_n hx hb dX9_beats_28 rfl (lv_at hl 0 rfl) ?_
        refine lv_iload_n hx hb dX9_beats_29 rfl (lv_at hl 1 rfl) ?_
        refine lv_iload_n hx hb dX9_beats_30 rfl (lv_at hl 2 rfl) ?_
        obtain ⟨r10, hr11, h⟩ := bd_of h
        refine wd_callV0 (As := [.int p0, .int p1]) hC hW 0 wR_c0 rfl (c_X9_aimsBeat l D cy ad X n T1 p0 p1 r10 hr11) (cwV 2 hts (gu_V w_32_14 w_32_11 w_32_12 w_32_13 w_1_5) rfl rfl rfl hdX9_aimsBeat ⟨Nat.le_of_ble_eq_true rfl, Nat.le_of_ble_eq_true rfl⟩) rfl hl.1 rfl (Nat.le_of_ble_eq_true rfl) ⟨Nat.zero_le _, Nat.zero_le _⟩ dX9_beats_31 (fun H locs hW => ?_)
        refine lv_aload_n hx hb dX9_beats_34 rfl (lv_at hl 0 rfl) ?_
        refine lv_iload_n hx hb dX9_beats_35 rfl (lv_at hl 1 rfl) ?_
        obtain ⟨r12, hr13, h⟩ := bd_of h
        refine wd_callV1 (As := [.int p0]) hC hW 0 wR_c0 rfl (c_X9_planNow l D cy ad X n r10 p0 r12 hr13) (cwV 1 hts (gu_V w_28_11 w_28_8 w_28_9 w_28_10 w_1_5) rfl rfl rfl hdX9_planNow ⟨Nat.le_of_ble_eq_true rfl, Nat.le_of_ble_eq_true rfl⟩) rfl hl.1 rfl (Nat.le_of_ble_eq_true rfl) ⟨Nat.zero_le _, Nat.zero_le _⟩ dX9_beats_36 (fun H locs hW => ?_)
        obtain rfl := Option.some.inj h
        exact wd_iret hA hQ hC hr hk hW dX9_beats_39
      · replace h := ite_t h c9
        refine lv_iconst (v := (-1)) hx hb dX9_beats_26 (by decide) ?_
        obtain rfl := Option.some.inj h
        exact wd_iret hA hQ hC hr hk hW dX9_beats_27
def m_X9_winOf (n : Nat) (T : St) (p0 : Int32) : Option (Int32 × St) :=
  (m_X9_aimsWin n T p0).bind (fun r1 => (m_X9_planNow n r1 p0).bind (fun r3 => some (r3, r1)))
set_option maxHeartbeats 4000000 in
set_option maxRecDepth 100000 in
theorem c_X9_winOf (l : Launch) (D : va_G) (cy : Nat → ClassId) (ad : Nat → Nat) (X : va_W) (n : Nat) (T : St) (p0 : Int32) (r : (Int32 × St)) (h : m_X9_winOf n T p0 = some r) : CT l yX9_winOf (wu yX9_winOf cX9_winOf 2 (some .int)) 69 D cy [.ref (ad 0), .int p0] (wR ad cy T ++ X) (some (.int r.1)) (wR ad cy r.2 ++ X) := by
  refine CT.mk (cc := cX9_winOf) (maxL := 2) (ret := (some .int)) (own := RX9) (by decide) rfl rfl (Nat.le_of_ble_eq_true rfl) ?_
  intro p e s m args below meth c ls A Q hA hQ hC hr hk hW hl
  have hx := hC.1
  have hb := hC.2.1
  have hown := hC.2.2.2.1
  have hts := hC.2.2.2.2
  have hl : lv_has ls 2 [(0, .ref (ad 0)), (1, .int p0)] := hl
  unfold m_X9_winOf at h
  refine lv_aload_n hx hb dX9_winOf_0 rfl (lv_at hl 0 rfl) ?_
  refine lv_iload_n hx hb dX9_winOf_1 rfl (lv_at hl 1 rfl) ?_
  obtain ⟨r1, hr2, h⟩ := bd_of h
  refine wd_callV0 (As := [.int p0]) hC hW 0 wR_c0 rfl (c_X9_aimsWin l D cy ad X n T p0 r1 hr2) (cwV 1 hts (gu_V w_33_14 w_33_11 w_33_12 w_33_13 w_1_5) rfl rfl rfl hdX9_aimsWin ⟨Nat.le_of_ble_eq_true rfl, Nat.le_of_ble_eq_true rfl⟩) rfl hl.1 rfl (Nat.le_of_ble_eq_true rfl) ⟨Nat.zero_le _, Nat.zero_le _⟩ dX9_winOf_2 (fun H locs hW => ?_)
  refine lv_aload_n hx hb dX9_winOf_5 rfl (lv_at hl 0 rfl) ?_
  refine lv_iload_n hx hb dX9_winOf_6 rfl (lv_at hl 1 rfl) ?_
  obtain ⟨r3, hr4, h⟩ := bd_of h
  refine wd_callV1 (As := [.int p0]) hC hW 0 wR_c0 rfl (c_X9_planNow l D cy ad X n r1 p0 r3 hr4) (cwV 1 hts (gu_V w_28_11 w_28_8 w_28_9 w_28_10 w_1_5) rfl rfl rfl hdX9_planNow ⟨Nat.le_of_ble_eq_true rfl, Nat.le_of_ble_eq_true rfl⟩) rfl hl.1 rfl (Nat.le_of_ble_eq_true rfl) ⟨Nat.zero_le _, Nat.zero_le _⟩ dX9_winOf_7 (fun H locs hW => ?_)
  obtain rfl := Option.some.inj h
  exact wd_iret hA hQ hC hr hk hW dX9_winOf_10
def m_X9_wins_L22 : Nat → St → Int32 → Int32 → Option (St)
  | 0, _, _, _ => none
  | n + 1, T, x1, x2 =>
    if (T.1 3) ≤ x2 then (some T) else ((m_X9_winOf n T x2).bind (fun r11 => (m_X9_notes r11.2 r11.1.toInt64).bind (fun r13 => m_X9_wins_L22 n r13 x1 (x2 + 1))))
theorem m_X9_wins_L22_0 (T : St) (x1 : Int32) (x2 : Int32) : m_X9_wins_L22 0 T x1 x2 = none := rfl
theorem m_X9_wins_L22_s {n : Nat} {T : St} {x1 : Int32} {x2 : Int32} : m_X9_wins_L22 (n + 1) T x1 x2 =
    (if (T.1 3) ≤ x2 then (some T) else ((m_X9_winOf n T x2).bind (fun r11 => (m_X9_notes r11.2 r11.1.toInt64).bind (fun r13 => m_X9_wins_L22 n r13 x1 (x2 + 1))))) := rfl
def m_X9_wins (n : Nat) (T : St) (p0 : Int32) : Option (Int32 × St) :=
  nm (sI T 0 0) (fun T1 => (m_X9_isLifter T1 p0).bind (fun r3 => if r3 = 0 then (some ((-1), T1)) else (nm (sI T1 1 0) (fun T6 => (m_X9_wins_L22 n T6 p0 0).bind (fun q8 => ck p0 64 (some ((q8.2.2.1 2 p0.toNatClampNeg).toInt32, q8)))))))
set_option maxHeartbeats 4000000 in
set_option maxRecDepth 100000 in
theorem c_X9_wins (l : Launch) (D : va_G) (cy : Nat → ClassId) (ad : Nat → Nat) (X : va_W) (n : Nat) (T : St) (p0 : Int32) (r : (Int32 × St)) (h : m_X9_wins n T p0 = some r) : CT l yX9_wins (wu yX9_wins cX9_wins 3 (some .int)) 70 D cy [.ref (ad 0), .int p0] (wR ad cy T ++ X) (some (.int r.1)) (wR ad cy r.2 ++ X) := by
  refine CT.mk (cc := cX9_wins) (maxL := 3) (ret := (some .int)) (own := RX9) (by decide) rfl rfl (Nat.le_of_ble_eq_true rfl) ?_
  intro p e s m args below meth c ls A Q hA hQ hC hr hk hW hl
  have hx := hC.1
  have hb := hC.2.1
  have hown := hC.2.2.2.1
  have hts := hC.2.2.2.2
  have hl : lv_has ls 3 [(0, .ref (ad 0)), (1, .int p0)] := hl
  have f77 := hts _ (wu_in w_6_14)
  have i9 := (fun w h => wu_in (inc_9 w h) : ∀ w ∈ u_ws RX9 TX9 40, w ∈ (wu yX9_wins cX9_wins 3 (some .int)))
  have f81 := hts _ (wu_in w_19_2)
  have f84 := hts _ (wu_in w_9_13)
  have f7 := hts _ (wu_in w_5_3)
  unfold m_X9_wins at h
  refine lv_aload_n hx hb dX9_wins_0 rfl (lv_at hl 0 rfl) ?_
  refine lv_iconst (v := 0) hx hb dX9_wins_1 (by decide) ?_
  refine wd_put hC i9 tyX9_ok nmX9 hW 0 wR_c0 rfl 0 (Nat.le_of_ble_eq_true rfl) f77 rfl rfl rfl rfl (Nat.le_of_ble_eq_true rfl) wR_s0_0 dX9_wins_2 (fun H locs hW => ?_)
  obtain ⟨T1, e2, h⟩ := nm_of h
  replace hW := wq_T e2 hW
  refine lv_aload_n hx hb dX9_wins_5 rfl (lv_at hl 0 rfl) ?_
  refine lv_iload_n hx hb dX9_wins_6 rfl (lv_at hl 1 rfl) ?_
  obtain ⟨r3, hr4, h⟩ := bd_of h
  refine wd_callV1 (As := [.int p0]) hC hW 0 wR_c0 rfl (c_X9_isLifter l D cy ad X T1 p0 r3 hr4) (cwV 1 hts (gu_V w_14_5 w_14_2 w_14_3 w_14_4 w_1_5) rfl rfl rfl hdX9_isLifter ⟨Nat.le_of_ble_eq_true rfl, Nat.le_of_ble_eq_true rfl⟩) rfl hl.1 rfl (Nat.le_of_ble_eq_true rfl) ⟨Nat.zero_le _, Nat.zero_le _⟩ dX9_wins_7 (fun H locs hW => ?_)
  refine lv_if_ne (tgt := 15) hx hb dX9_wins_10 (by decide) (fun c5 => ?_) (fun c5 => ?_)
  · replace h := ite_f h c5
    refine lv_aload_n hx hb dX9_wins_15 rfl (lv_at hl 0 rfl) ?_
    refine lv_iconst (v := 0) hx hb dX9_wins_16 (by decide) ?_
    refine wd_put hC i9 tyX9_ok nmX9 hW 0 wR_c0 rfl 1 (Nat.le_of_ble_eq_true rfl) f81 rfl rfl rfl rfl (Nat.le_of_ble_eq_true rfl) wR_s0_1 dX9_wins_17 (fun H locs hW => ?_)
    obtain ⟨T6, e7, h⟩ := nm_of h
    replace hW := wq_T e7 hW
    refine lv_iconst (v := 0) hx hb dX9_wins_20 (by decide) ?_
    refine lv_istore_n (lv' := [(2, .int 0), (0, .ref (ad 0)), (1, .int p0)]) hx hb dX9_wins_21 rfl hl (by decide) rfl (fun ls hl => ?_)
    have hL22 : ∀ (n : Nat) (T : St) (x1 : Int32) (x2 : Int32)  (H : Heap) (locs : List Loc) (ls : Array Slot) (r : (St)), m_X9_wins_L22 n T x1 x2 = some r → Wd D cy A s (wR ad cy T ++ X) H locs → lv_has ls 3 [(0, .ref (ad 0)), (1, .int x1), (2, .int x2)] → (∀ (H : Heap) (locs : List Loc) (ls : Array Slot), Wd D cy A s (wR ad cy r ++ X) H locs → lv_has ls 3 [(0, .ref (ad 0)), (1, .int x1)] → W p l e (RM 70) s m args below meth c H locs 0 0 Q (F0 m 46 ls [])) → W p l e (RM 70) s m args below meth c H locs 0 0 Q (F0 m 22 ls []) := by
      intro n
      induction n with
      | zero =>
        intro T x1 x2  H locs ls r h
        exact absurd (h.symm.trans (m_X9_wins_L22_0 ..)) (by simp)
      | succ n ih =>
        intro T x1 x2  H locs ls r h hW hl kk
        rw [m_X9_wins_L22_s] at h
        refine lv_iload_n hx hb dX9_wins_22 rfl (lv_at hl 2 rfl) ?_
        refine lv_aload_n hx hb dX9_wins_23 rfl (lv_at hl 0 rfl) ?_
        refine wd_get hC i9 hW 0 wR_c0 rfl 3 (Nat.le_of_ble_eq_true rfl) f84 rfl rfl dX9_wins_24 ?_
        refine lv_icmp_ge (tgt := 46) hx hb dX9_wins_27 (by decide) (fun c10 => ?_) (fun c10 => ?_)
        · replace h := ite_t h c10
          obtain rfl := Option.some.inj h
          exact kk _ _ _ hW (lv_sub hl [0, 1] rfl)
        · replace h := ite_f h c10
          refine lv_aload_n hx hb dX9_wins_30 rfl (lv_at hl 0 rfl) ?_
          refine lv_aload_n hx hb dX9_wins_31 rfl (lv_at hl 0 rfl) ?_
          refine lv_iload_n hx hb dX9_wins_32 rfl (lv_at hl 2 rfl) ?_
          obtain ⟨r11, hr12, h⟩ := bd_of h
          refine wd_callV1 (As := [.int x2]) hC hW 0 wR_c0 rfl (c_X9_winOf l D cy ad X n T x2 r11 hr12) (cwV 1 hts (gu_V w_33_10 w_33_7 w_33_8 w_33_9 w_1_5) rfl rfl rfl hdX9_winOf ⟨Nat.le_of_ble_eq_true rfl, Nat.le_of_ble_eq_true rfl⟩) rfl hl.1 rfl (Nat.le_of_ble_eq_true rfl) ⟨Nat.zero_le _, Nat.zero_le _⟩ dX9_wins_33 (fun H locs hW => ?_)
          refine lv_i2l (v := r11.1.toInt64) hx hb dX9_wins_36 rfl ?_
          obtain ⟨r13, hr14, h⟩ := bd_of h
          refine wd_callV0 (As := [.long r11.1.toInt64]) hC hW 0 wR_c0 rfl (c_X9_notes l D cy ad X r11.2 r11.1.toInt64 r13 hr14) (cwV 1 hts (gu_V w_19_14 w_19_11 w_19_12 w_19_13 w_1_5) rfl rfl rfl hdX9_notes ⟨Nat.le_of_ble_eq_true rfl, Nat.le_of_ble_eq_true rfl⟩) rfl hl.1 rfl (Nat.le_of_ble_eq_true rfl) ⟨Nat.zero_le _, Nat.zero_le _⟩ dX9_wins_37 (fun H locs hW => ?_)
          refine lv_iinc (v := x2 + 1) (lv' := [(2, .int (x2 + 1)), (0, .ref (ad 0)), (1, .int x1)]) hx hb dX9_wins_40 hl (k := 2) rfl rfl (by decide) rfl (fun ls hl => ?_)
          refine lv_goto (tgt := 22) hx hb dX9_wins_43 (by decide) ?_
          exact ih r13 x1 (x2 + 1) _ _ _ r h hW (lv_sub hl [1, 2, 0] rfl) kk
    obtain ⟨q8, hq9, h⟩ := bd_of h
    refine hL22 n T6 p0 0  _ _ _ q8 hq9 hW (lv_sub hl [1, 2, 0] rfl) (fun H locs ls hW hl => ?_)
    refine lv_aload_n hx hb dX9_wins_46 rfl (lv_at hl 0 rfl) ?_
    refine wd_get hC i9 hW 0 wR_c0 rfl 2 (Nat.le_of_ble_eq_true rfl) f7 rfl rfl dX9_wins_47 ?_
    refine lv_iload_n hx hb dX9_wins_50 rfl (lv_at hl 1 rfl) ?_
    obtain ⟨hi15, h⟩ := ck_of h
    refine wd_lald hC hW 1 wR_c1 hi15 dX9_wins_51 ?_
    refine lv_l2i (v := (q8.2.2.1 2 p0.toNatClampNeg).toInt32) hx hb dX9_wins_52 rfl ?_
    obtain rfl := Option.some.inj h
    exact wd_iret hA hQ hC hr hk hW dX9_wins_53
  · replace h := ite_t h c5
    refine lv_iconst (v := (-1)) hx hb dX9_wins_13 (by decide) ?_
    obtain rfl := Option.some.inj h
    exact wd_iret hA hQ hC hr hk hW dX9_wins_14
def m_X9_bombs_L43 : Nat → St → Int32 → Int32 → Int32 → Int32 → Int32 → Option (Int32)
  | 0, _, _, _, _, _, _ => none
  | n + 1, T, x1, x2, x3, x4, x5 =>
    if 3 ≤ x5 then (some x3) else (if x4 ≤ 0 then (some x3) else ((m_X9_oddsOf n T x1 x2 x4 x5).bind (fun r17 => (m_X9_failsToo T x3 r17).bind (fun r19 => (m_X9_asksThen T x1 x2 x5 x4 0).bind (fun r21 => m_X9_bombs_L43 n T x1 x2 r19 r21 (x5 + 1))))))
theorem m_X9_bombs_L43_0 (T : St) (x1 : Int32) (x2 : Int32) (x3 : Int32) (x4 : Int32) (x5 : Int32) : m_X9_bombs_L43 0 T x1 x2 x3 x4 x5 = none := rfl
theorem m_X9_bombs_L43_s {n : Nat} {T : St} {x1 : Int32} {x2 : Int32} {x3 : Int32} {x4 : Int32} {x5 : Int32} : m_X9_bombs_L43 (n + 1) T x1 x2 x3 x4 x5 =
    (if 3 ≤ x5 then (some x3) else (if x4 ≤ 0 then (some x3) else ((m_X9_oddsOf n T x1 x2 x4 x5).bind (fun r17 => (m_X9_failsToo T x3 r17).bind (fun r19 => (m_X9_asksThen T x1 x2 x5 x4 0).bind (fun r21 => m_X9_bombs_L43 n T x1 x2 r19 r21 (x5 + 1))))))) := rfl
def m_X9_bombs_L22 : Nat → St → Int32 → Int32 → Option (St)
  | 0, _, _, _ => none
  | n + 1, T, x1, x2 =>
    if 3 ≤ x2 then (some T) else ((m_X9_planOf T x1 x2 0).bind (fun r11 => (m_X9_bombs_L43 n T x1 x2 1000000 r11 0).bind (fun q13 => (m_X9_notes T q13.toInt64).bind (fun r23 => m_X9_bombs_L22 n r23 x1 (x2 + 1)))))
theorem m_X9_bombs_L22_0 (T : St) (x1 : Int32) (x2 : Int32) : m_X9_bombs_L22 0 T x1 x2 = none := rfl
theorem m_X9_bombs_L22_s {n : Nat} {T : St} {x1 : Int32} {x2 : Int32} : m_X9_bombs_L22 (n + 1) T x1 x2 =
    (if 3 ≤ x2 then (some T) else ((m_X9_planOf T x1 x2 0).bind (fun r11 => (m_X9_bombs_L43 n T x1 x2 1000000 r11 0).bind (fun q13 => (m_X9_notes T q13.toInt64).bind (fun r23 => m_X9_bombs_L22 n r23 x1 (x2 + 1)))))) := rfl
def m_X9_bombs (n : Nat) (T : St) (p0 : Int32) : Option (Int32 × St) :=
  nm (sI T 0 0) (fun T1 => (m_X9_isLifter T1 p0).bind (fun r3 => if r3 = 0 then (some ((-1), T1)) else (nm (sI T1 1 0) (fun T6 => (m_X9_bombs_L22 n T6 p0 0).bind (fun q8 => (m_X9_chanceOf n q8 p0 1).bind (fun r25 => some (1000000 - r25.1, r25.2)))))))
set_option maxHeartbeats 4000000 in
set_option maxRecDepth 100000 in
theorem c_X9_bombs (l : Launch) (D : va_G) (cy : Nat → ClassId) (ad : Nat → Nat) (X : va_W) (n : Nat) (T : St) (p0 : Int32) (r : (Int32 × St)) (h : m_X9_bombs n T p0 = some r) : CT l yX9_bombs (wu yX9_bombs cX9_bombs 6 (some .int)) 67 D cy [.ref (ad 0), .int p0] (wR ad cy T ++ X) (some (.int r.1)) (wR ad cy r.2 ++ X) := by
  refine CT.mk (cc := cX9_bombs) (maxL := 6) (ret := (some .int)) (own := RX9) (by decide) rfl rfl (Nat.le_of_ble_eq_true rfl) ?_
  intro p e s m args below meth c ls A Q hA hQ hC hr hk hW hl
  have hx := hC.1
  have hb := hC.2.1
  have hown := hC.2.2.2.1
  have hts := hC.2.2.2.2
  have hl : lv_has ls 6 [(0, .ref (ad 0)), (1, .int p0)] := hl
  have f77 := hts _ (wu_in w_6_14)
  have i9 := (fun w h => wu_in (inc_9 w h) : ∀ w ∈ u_ws RX9 TX9 40, w ∈ (wu yX9_bombs cX9_bombs 6 (some .int)))
  have f81 := hts _ (wu_in w_19_2)
  have k264 := hts _ (wu_in w_30_12)
  unfold m_X9_bombs at h
  refine lv_aload_n hx hb dX9_bombs_0 rfl (lv_at hl 0 rfl) ?_
  refine lv_iconst (v := 0) hx hb dX9_bombs_1 (by decide) ?_
  refine wd_put hC i9 tyX9_ok nmX9 hW 0 wR_c0 rfl 0 (Nat.le_of_ble_eq_true rfl) f77 rfl rfl rfl rfl (Nat.le_of_ble_eq_true rfl) wR_s0_0 dX9_bombs_2 (fun H locs hW => ?_)
  obtain ⟨T1, e2, h⟩ := nm_of h
  replace hW := wq_T e2 hW
  refine lv_aload_n hx hb dX9_bombs_5 rfl (lv_at hl 0 rfl) ?_
  refine lv_iload_n hx hb dX9_bombs_6 rfl (lv_at hl 1 rfl) ?_
  obtain ⟨r3, hr4, h⟩ := bd_of h
  refine wd_callV1 (As := [.int p0]) hC hW 0 wR_c0 rfl (c_X9_isLifter l D cy ad X T1 p0 r3 hr4) (cwV 1 hts (gu_V w_14_5 w_14_2 w_14_3 w_14_4 w_1_5) rfl rfl rfl hdX9_isLifter ⟨Nat.le_of_ble_eq_true rfl, Nat.le_of_ble_eq_true rfl⟩) rfl hl.1 rfl (Nat.le_of_ble_eq_true rfl) ⟨Nat.zero_le _, Nat.zero_le _⟩ dX9_bombs_7 (fun H locs hW => ?_)
  refine lv_if_ne (tgt := 15) hx hb dX9_bombs_10 (by decide) (fun c5 => ?_) (fun c5 => ?_)
  · replace h := ite_f h c5
    refine lv_aload_n hx hb dX9_bombs_15 rfl (lv_at hl 0 rfl) ?_
    refine lv_iconst (v := 0) hx hb dX9_bombs_16 (by decide) ?_
    refine wd_put hC i9 tyX9_ok nmX9 hW 0 wR_c0 rfl 1 (Nat.le_of_ble_eq_true rfl) f81 rfl rfl rfl rfl (Nat.le_of_ble_eq_true rfl) wR_s0_1 dX9_bombs_17 (fun H locs hW => ?_)
    obtain ⟨T6, e7, h⟩ := nm_of h
    replace hW := wq_T e7 hW
    refine lv_iconst (v := 0) hx hb dX9_bombs_20 (by decide) ?_
    refine lv_istore_n (lv' := [(2, .int 0), (0, .ref (ad 0)), (1, .int p0)]) hx hb dX9_bombs_21 rfl hl (by decide) rfl (fun ls hl => ?_)
    have hL22 : ∀ (n : Nat) (T : St) (x1 : Int32) (x2 : Int32)  (H : Heap) (locs : List Loc) (ls : Array Slot) (r : (St)), m_X9_bombs_L22 n T x1 x2 = some r → Wd D cy A s (wR ad cy T ++ X) H locs → lv_has ls 6 [(0, .ref (ad 0)), (1, .int x1), (2, .int x2)] → (∀ (H : Heap) (locs : List Loc) (ls : Array Slot), Wd D cy A s (wR ad cy r ++ X) H locs → lv_has ls 6 [(0, .ref (ad 0)), (1, .int x1)] → W p l e (RM 67) s m args below meth c H locs 0 0 Q (F0 m 100 ls [])) → W p l e (RM 67) s m args below meth c H locs 0 0 Q (F0 m 22 ls []) := by
      intro n
      induction n with
      | zero =>
        intro T x1 x2  H locs ls r h
        exact absurd (h.symm.trans (m_X9_bombs_L22_0 ..)) (by simp)
      | succ n ih =>
        intro T x1 x2  H locs ls r h hW hl kk
        rw [m_X9_bombs_L22_s] at h
        refine lv_iload_n hx hb dX9_bombs_22 rfl (lv_at hl 2 rfl) ?_
        refine lv_iconst (v := 3) hx hb dX9_bombs_23 (by decide) ?_
        refine lv_icmp_ge (tgt := 100) hx hb dX9_bombs_24 (by decide) (fun c10 => ?_) (fun c10 => ?_)
        · replace h := ite_t h c10
          obtain rfl := Option.some.inj h
          exact kk _ _ _ hW (lv_sub hl [0, 1] rfl)
        · replace h := ite_f h c10
          refine lv_ldcw hx hb hown k264 dX9_bombs_27 ?_
          refine lv_istore_n (lv' := [(3, .int 1000000), (0, .ref (ad 0)), (1, .int x1), (2, .int x2)]) hx hb dX9_bombs_30 rfl hl (by decide) rfl (fun ls hl => ?_)
          refine lv_aload_n hx hb dX9_bombs_31 rfl (lv_at hl 1 rfl) ?_
          refine lv_iload_n hx hb dX9_bombs_32 rfl (lv_at hl 2 rfl) ?_
          refine lv_iload_n hx hb dX9_bombs_33 rfl (lv_at hl 3 rfl) ?_
          refine lv_iconst (v := 0) hx hb dX9_bombs_34 (by decide) ?_
          obtain ⟨r11, hr12, h⟩ := bd_of h
          refine wd_callV1 (As := [.int x1, .int x2, .int 0]) hC hW 0 wR_c0 rfl (c_X9_planOf l D cy ad X T x1 x2 0 r11 hr12) (cwV 3 hts (gu_V w_12_4 w_12_1 w_12_2 w_12_3 w_1_5) rfl rfl rfl hdX9_planOf ⟨Nat.le_of_ble_eq_true rfl, Nat.le_of_ble_eq_true rfl⟩) rfl hl.1 rfl (Nat.le_of_ble_eq_true rfl) ⟨Nat.zero_le _, Nat.zero_le _⟩ dX9_bombs_35 (fun H locs hW => ?_)
          refine lv_istore (lv' := [(4, .int r11), (3, .int 1000000), (0, .ref (ad 0)), (1, .int x1), (2, .int x2)]) hx hb dX9_bombs_38 hl (by decide) rfl (fun ls hl => ?_)
          refine lv_iconst (v := 0) hx hb dX9_bombs_40 (by decide) ?_
          refine lv_istore (lv' := [(5, .int 0), (4, .int r11), (3, .int 1000000), (0, .ref (ad 0)), (1, .int x1), (2, .int x2)]) hx hb dX9_bombs_41 hl (by decide) rfl (fun ls hl => ?_)
          have hL43 : ∀ (n : Nat) (x1 : Int32) (x2 : Int32) (x3 : Int32) (x4 : Int32) (x5 : Int32)  (H : Heap) (locs : List Loc) (ls : Array Slot) (r : (Int32)), m_X9_bombs_L43 n T x1 x2 x3 x4 x5 = some r → Wd D cy A s (wR ad cy T ++ X) H locs → lv_has ls 6 [(0, .ref (ad 0)), (1, .int x1), (2, .int x2), (3, .int x3), (4, .int x4), (5, .int x5)] → (∀ (H : Heap) (locs : List Loc) (ls : Array Slot), Wd D cy A s (wR ad cy T ++ X) H locs → lv_has ls 6 [(0, .ref (ad 0)), (1, .int x1), (2, .int x2), (3, .int r)] → W p l e (RM 67) s m args below meth c H locs 0 0 Q (F0 m 88 ls [])) → W p l e (RM 67) s m args below meth c H locs 0 0 Q (F0 m 43 ls []) := by
            intro n
            induction n with
            | zero =>
              intro x1 x2 x3 x4 x5  H locs ls r h
              exact absurd (h.symm.trans (m_X9_bombs_L43_0 ..)) (by simp)
            | succ n ih =>
              intro x1 x2 x3 x4 x5  H locs ls r h hW hl kk
              rw [m_X9_bombs_L43_s] at h
              refine lv_iload hx hb dX9_bombs_43 (lv_at hl 5 rfl) ?_
              refine lv_iconst (v := 3) hx hb dX9_bombs_45 (by decide) ?_
              refine lv_icmp_ge (tgt := 88) hx hb dX9_bombs_46 (by decide) (fun c15 => ?_) (fun c15 => ?_)
              · replace h := ite_t h c15
                obtain rfl := Option.some.inj h
                exact kk _ _ _ hW (lv_sub hl [0, 1, 2, 3] rfl)
              · replace h := ite_f h c15
                refine lv_iload hx hb dX9_bombs_49 (lv_at hl 4 rfl) ?_
                refine lv_if_le (tgt := 88) hx hb dX9_bombs_51 (by decide) (fun c16 => ?_) (fun c16 => ?_)
                · replace h := ite_t h c16
                  obtain rfl := Option.some.inj h
                  exact kk _ _ _ hW (lv_sub hl [0, 1, 2, 3] rfl)
                · replace h := ite_f h c16
                  refine lv_iload_n hx hb dX9_bombs_54 rfl (lv_at hl 3 rfl) ?_
                  refine lv_aload_n hx hb dX9_bombs_55 rfl (lv_at hl 0 rfl) ?_
                  refine lv_iload_n hx hb dX9_bombs_56 rfl (lv_at hl 1 rfl) ?_
                  refine lv_iload_n hx hb dX9_bombs_57 rfl (lv_at hl 2 rfl) ?_
                  refine lv_iload hx hb dX9_bombs_58 (lv_at hl 4 rfl) ?_
                  refine lv_iload hx hb dX9_bombs_60 (lv_at hl 5 rfl) ?_
                  obtain ⟨r17, hr18, h⟩ := bd_of h
                  refine wd_callV1 (As := [.int x1, .int x2, .int x4, .int x5]) hC hW 0 wR_c0 rfl (c_X9_oddsOf l D cy ad X n T x1 x2 x4 x5 r17 hr18) (cwV 4 hts (gu_V w_15_23 w_15_20 w_15_21 w_15_22 w_1_5) rfl rfl rfl hdX9_oddsOf ⟨Nat.le_of_ble_eq_true rfl, Nat.le_of_ble_eq_true rfl⟩) rfl hl.1 rfl (Nat.le_of_ble_eq_true rfl) ⟨Nat.zero_le _, Nat.zero_le _⟩ dX9_bombs_62 (fun H locs hW => ?_)
                  obtain ⟨r19, hr20, h⟩ := bd_of h
                  refine wd_callS1 (As := [.int x3, .int r17]) hC hW (c_X9_failsToo l D cy ad X T x3 r17 r19 hr20) (va_cwS 2 hts (gu_S w_34_6 w_34_4 w_34_5 w_1_5) rfl rfl rfl hdX9_failsToo ⟨Nat.le_of_ble_eq_true rfl, Nat.le_of_ble_eq_true rfl⟩) rfl hl.1 rfl (Nat.le_of_ble_eq_true rfl) ⟨Nat.zero_le _, Nat.zero_le _⟩ dX9_bombs_65 (fun H locs hW => ?_)
                  refine lv_istore_n (lv' := [(3, .int r19), (0, .ref (ad 0)), (1, .int x1), (2, .int x2), (4, .int x4), (5, .int x5)]) hx hb dX9_bombs_68 rfl hl (by decide) rfl (fun ls hl => ?_)
                  refine lv_aload_n hx hb dX9_bombs_69 rfl (lv_at hl 1 rfl) ?_
                  refine lv_iload_n hx hb dX9_bombs_70 rfl (lv_at hl 2 rfl) ?_
                  refine lv_iload_n hx hb dX9_bombs_71 rfl (lv_at hl 3 rfl) ?_
                  refine lv_iload hx hb dX9_bombs_72 (lv_at hl 5 rfl) ?_
                  refine lv_iload hx hb dX9_bombs_74 (lv_at hl 4 rfl) ?_
                  refine lv_iconst (v := 0) hx hb dX9_bombs_76 (by decide) ?_
                  obtain ⟨r21, hr22, h⟩ := bd_of h
                  refine wd_callV1 (As := [.int x1, .int x2, .int x5, .int x4, .int 0]) hC hW 0 wR_c0 rfl (c_X9_asksThen l D cy ad X T x1 x2 x5 x4 0 r21 hr22) (cwV 5 hts (gu_V w_21_17 w_21_14 w_21_15 w_21_16 w_1_5) rfl rfl rfl hdX9_asksThen ⟨Nat.le_of_ble_eq_true rfl, Nat.le_of_ble_eq_true rfl⟩) rfl hl.1 rfl (Nat.le_of_ble_eq_true rfl) ⟨Nat.zero_le _, Nat.zero_le _⟩ dX9_bombs_77 (fun H locs hW => ?_)
                  refine lv_istore (lv' := [(4, .int r21), (3, .int r19), (0, .ref (ad 0)), (1, .int x1), (2, .int x2), (5, .int x5)]) hx hb dX9_bombs_80 hl (by decide) rfl (fun ls hl => ?_)
                  refine lv_iinc (v := x5 + 1) (lv' := [(5, .int (x5 + 1)), (4, .int r21), (3, .int r19), (0, .ref (ad 0)), (1, .int x1), (2, .int x2)]) hx hb dX9_bombs_82 hl (k := 5) rfl rfl (by decide) rfl (fun ls hl => ?_)
                  refine lv_goto (tgt := 43) hx hb dX9_bombs_85 (by decide) ?_
                  exact ih x1 x2 r19 r21 (x5 + 1) _ _ _ r h hW (lv_sub hl [3, 4, 5, 2, 1, 0] rfl) kk
          obtain ⟨q13, hq14, h⟩ := bd_of h
          refine hL43 n x1 x2 1000000 r11 0  _ _ _ q13 hq14 hW (lv_sub hl [3, 4, 5, 2, 1, 0] rfl) (fun H locs ls hW hl => ?_)
          refine lv_aload_n hx hb dX9_bombs_88 rfl (lv_at hl 0 rfl) ?_
          refine lv_iload_n hx hb dX9_bombs_89 rfl (lv_at hl 3 rfl) ?_
          refine lv_i2l (v := q13.toInt64) hx hb dX9_bombs_90 rfl ?_
          obtain ⟨r23, hr24, h⟩ := bd_of h
          refine wd_callV0 (As := [.long q13.toInt64]) hC hW 0 wR_c0 rfl (c_X9_notes l D cy ad X T q13.toInt64 r23 hr24) (cwV 1 hts (gu_V w_19_14 w_19_11 w_19_12 w_19_13 w_1_5) rfl rfl rfl hdX9_notes ⟨Nat.le_of_ble_eq_true rfl, Nat.le_of_ble_eq_true rfl⟩) rfl hl.1 rfl (Nat.le_of_ble_eq_true rfl) ⟨Nat.zero_le _, Nat.zero_le _⟩ dX9_bombs_91 (fun H locs hW => ?_)
          refine lv_iinc (v := x2 + 1) (lv' := [(2, .int (x2 + 1)), (0, .ref (ad 0)), (1, .int x1), (3, .int q13)]) hx hb dX9_bombs_94 hl (k := 2) rfl rfl (by decide) rfl (fun ls hl => ?_)
          refine lv_goto (tgt := 22) hx hb dX9_bombs_97 (by decide) ?_
          exact ih r23 x1 (x2 + 1) _ _ _ r h hW (lv_sub hl [1, 2, 0] rfl) kk
    obtain ⟨q8, hq9, h⟩ := bd_of h
    refine hL22 n T6 p0 0  _ _ _ q8 hq9 hW (lv_sub hl [1, 2, 0] rfl) (fun H locs ls hW hl => ?_)
    refine lv_ldcw hx hb hown k264 dX9_bombs_100 ?_
    refine lv_aload_n hx hb dX9_bombs_103 rfl (lv_at hl 0 rfl) ?_
    refine lv_iload_n hx hb dX9_bombs_104 rfl (lv_at hl 1 rfl) ?_
    refine lv_iconst (v := 1) hx hb dX9_bombs_105 (by decide) ?_
    obtain ⟨r25, hr26, h⟩ := bd_of h
    refine wd_callV1 (As := [.int p0, .int 1]) hC hW 0 wR_c0 rfl (c_X9_chanceOf l D cy ad X n q8 p0 1 r25 hr26) (cwV 2 hts (gu_V w_30_7 w_30_4 w_30_5 w_30_6 w_1_5) rfl rfl rfl hdX9_chanceOf ⟨Nat.le_of_ble_eq_true rfl, Nat.le_of_ble_eq_true rfl⟩) rfl hl.1 rfl (Nat.le_of_ble_eq_true rfl) ⟨Nat.zero_le _, Nat.zero_le _⟩ dX9_bombs_106 (fun H locs hW => ?_)
    refine lv_isub hx hb dX9_bombs_109 ?_
    obtain rfl := Option.some.inj h
    exact wd_iret hA hQ hC hr hk hW dX9_bombs_110
  · replace h := ite_t h c5
    refine lv_iconst (v := (-1)) hx hb dX9_bombs_13 (by decide) ?_
    obtain rfl := Option.some.inj h
    exact wd_iret hA hQ hC hr hk hW dX9_bombs_14
def m_X9_tellsFree (n : Nat) (T : St) (p0 : Int32) : Option (Int32 × St) :=
  (m_X9_freeNow n T p0).bind (fun r1 => nm (sI r1.2 1 0) (fun T3 => (m_X9_notes T3 ((T3.1 34).toInt64)).bind (fun r5 => (m_X9_planNow n r5 p0).bind (fun r7 => (m_X9_notes r5 r7.toInt64).bind (fun r9 => some (r1.1, r9))))))
set_option maxHeartbeats 4000000 in
set_option maxRecDepth 100000 in
theorem c_X9_tellsFree (l : Launch) (D : va_G) (cy : Nat → ClassId) (ad : Nat → Nat) (X : va_W) (n : Nat) (T : St) (p0 : Int32) (r : (Int32 × St)) (h : m_X9_tellsFree n T p0 = some r) : CT l yX9_tellsFree (wu yX9_tellsFree cX9_tellsFree 3 (some .int)) 66 D cy [.ref (ad 0), .int p0] (wR ad cy T ++ X) (some (.int r.1)) (wR ad cy r.2 ++ X) := by
  refine CT.mk (cc := cX9_tellsFree) (maxL := 3) (ret := (some .int)) (own := RX9) (by decide) rfl rfl (Nat.le_of_ble_eq_true rfl) ?_
  intro p e s m args below meth c ls A Q hA hQ hC hr hk hW hl
  have hx := hC.1
  have hb := hC.2.1
  have hown := hC.2.2.2.1
  have hts := hC.2.2.2.2
  have hl : lv_has ls 3 [(0, .ref (ad 0)), (1, .int p0)] := hl
  have f81 := hts _ (wu_in w_19_2)
  have i9 := (fun w h => wu_in (inc_9 w h) : ∀ w ∈ u_ws RX9 TX9 40, w ∈ (wu yX9_tellsFree cX9_tellsFree 3 (some .int)))
  have f346 := hts _ (wu_in w_38_23)
  unfold m_X9_tellsFree at h
  refine lv_aload_n hx hb dX9_tellsFree_0 rfl (lv_at hl 0 rfl) ?_
  refine lv_iload_n hx hb dX9_tellsFree_1 rfl (lv_at hl 1 rfl) ?_
  obtain ⟨r1, hr2, h⟩ := bd_of h
  refine wd_callV1 (As := [.int p0]) hC hW 0 wR_c0 rfl (c_X9_freeNow l D cy ad X n T p0 r1 hr2) (cwV 1 hts (gu_V w_39_3 w_39_0 w_39_1 w_39_2 w_1_5) rfl rfl rfl hdX9_freeNow ⟨Nat.le_of_ble_eq_true rfl, Nat.le_of_ble_eq_true rfl⟩) rfl hl.1 rfl (Nat.le_of_ble_eq_true rfl) ⟨Nat.zero_le _, Nat.zero_le _⟩ dX9_tellsFree_2 (fun H locs hW => ?_)
  refine lv_istore_n (lv' := [(2, .int r1.1), (0, .ref (ad 0)), (1, .int p0)]) hx hb dX9_tellsFree_5 rfl hl (by decide) rfl (fun ls hl => ?_)
  refine lv_aload_n hx hb dX9_tellsFree_6 rfl (lv_at hl 1 rfl) ?_
  refine lv_iconst (v := 0) hx hb dX9_tellsFree_7 (by decide) ?_
  refine wd_put hC i9 tyX9_ok nmX9 hW 0 wR_c0 rfl 1 (Nat.le_of_ble_eq_true rfl) f81 rfl rfl rfl rfl (Nat.le_of_ble_eq_true rfl) wR_s0_1 dX9_tellsFree_8 (fun H locs hW => ?_)
  obtain ⟨T3, e4, h⟩ := nm_of h
  replace hW := wq_T e4 hW
  refine lv_aload_n hx hb dX9_tellsFree_11 rfl (lv_at hl 1 rfl) ?_
  refine lv_aload_n hx hb dX9_tellsFree_12 rfl (lv_at hl 1 rfl) ?_
  refine wd_get hC i9 hW 0 wR_c0 rfl 34 (Nat.le_of_ble_eq_true rfl) f346 rfl rfl dX9_tellsFree_13 ?_
  refine lv_i2l (v := (T3.1 34).toInt64) hx hb dX9_tellsFree_16 rfl ?_
  obtain ⟨r5, hr6, h⟩ := bd_of h
  refine wd_callV0 (As := [.long ((T3.1 34).toInt64)]) hC hW 0 wR_c0 rfl (c_X9_notes l D cy ad X T3 ((T3.1 34).toInt64) r5 hr6) (cwV 1 hts (gu_V w_19_14 w_19_11 w_19_12 w_19_13 w_1_5) rfl rfl rfl hdX9_notes ⟨Nat.le_of_ble_eq_true rfl, Nat.le_of_ble_eq_true rfl⟩) rfl hl.1 rfl (Nat.le_of_ble_eq_true rfl) ⟨Nat.zero_le _, Nat.zero_le _⟩ dX9_tellsFree_17 (fun H locs hW => ?_)
  refine lv_aload_n hx hb dX9_tellsFree_20 rfl (lv_at hl 1 rfl) ?_
  refine lv_aload_n hx hb dX9_tellsFree_21 rfl (lv_at hl 1 rfl) ?_
  refine lv_iload_n hx hb dX9_tellsFree_22 rfl (lv_at hl 2 rfl) ?_
  obtain ⟨r7, hr8, h⟩ := bd_of h
  refine wd_callV1 (As := [.int p0]) hC hW 0 wR_c0 rfl (c_X9_planNow l D cy ad X n r5 p0 r7 hr8) (cwV 1 hts (gu_V w_28_11 w_28_8 w_28_9 w_28_10 w_1_5) rfl rfl rfl hdX9_planNow ⟨Nat.le_of_ble_eq_true rfl, Nat.le_of_ble_eq_true rfl⟩) rfl hl.1 rfl (Nat.le_of_ble_eq_true rfl) ⟨Nat.zero_le _, Nat.zero_le _⟩ dX9_tellsFree_23 (fun H locs hW => ?_)
  refine lv_i2l (v := r7.toInt64) hx hb dX9_tellsFree_26 rfl ?_
  obtain ⟨r9, hr10, h⟩ := bd_of h
  refine wd_callV0 (As := [.long r7.toInt64]) hC hW 0 wR_c0 rfl (c_X9_notes l D cy ad X r5 r7.toInt64 r9 hr10) (cwV 1 hts (gu_V w_19_14 w_19_11 w_19_12 w_19_13 w_1_5) rfl rfl rfl hdX9_notes ⟨Nat.le_of_ble_eq_true rfl, Nat.le_of_ble_eq_true rfl⟩) rfl hl.1 rfl (Nat.le_of_ble_eq_true rfl) ⟨Nat.zero_le _, Nat.zero_le _⟩ dX9_tellsFree_27 (fun H locs hW => ?_)
  refine lv_iload_n hx hb dX9_tellsFree_30 rfl (lv_at hl 0 rfl) ?_
  obtain rfl := Option.some.inj h
  exact wd_iret hA hQ hC hr hk hW dX9_tellsFree_31
def m_X9_heavy (n : Nat) (T : St) (p0 : Int32) : Option (Int32 × St) :=
  nm (sI T 0 0) (fun T1 => (m_X9_isLifter T1 p0).bind (fun r3 => if r3 = 0 then (some ((-1), T1)) else ((m_X9_aimsMass n T1).bind (fun r6 => (m_X9_tellsFree n r6 p0).bind (fun r8 => some (r8.1, r8.2))))))
set_option maxHeartbeats 4000000 in
set_option maxRecDepth 100000 in
theorem c_X9_heavy (l : Launch) (D : va_G) (cy : Nat → ClassId) (ad : Nat → Nat) (X : va_W) (n : Nat) (T : St) (p0 : Int32) (r : (Int32 × St)) (h : m_X9_heavy n T p0 = some r) : CT l yX9_heavy (wu yX9_heavy cX9_heavy 2 (some .int)) 67 D cy [.ref (ad 0), .int p0] (wR ad cy T ++ X) (some (.int r.1)) (wR ad cy r.2 ++ X) := by
  refine CT.mk (cc := cX9_heavy) (maxL := 2) (ret := (some .int)) (own := RX9) (by decide) rfl rfl (Nat.le_of_ble_eq_true rfl) ?_
  intro p e s m args below meth c ls A Q hA hQ hC hr hk hW hl
  have hx := hC.1
  have hb := hC.2.1
  have hown := hC.2.2.2.1
  have hts := hC.2.2.2.2
  have hl : lv_has ls 2 [(0, .ref (ad 0)), (1, .int p0)] := hl
  have f77 := hts _ (wu_in w_6_14)
  have i9 := (fun w h => wu_in (inc_9 w h) : ∀ w ∈ u_ws RX9 TX9 40, w ∈ (wu yX9_heavy cX9_heavy 2 (some .int)))
  unfold m_X9_heavy at h
  refine lv_aload_n hx hb dX9_heavy_0 rfl (lv_at hl 0 rfl) ?_
  refine lv_iconst (v := 0) hx hb dX9_heavy_1 (by decide) ?_
  refine wd_put hC i9 tyX9_ok nmX9 hW 0 wR_c0 rfl 0 (Nat.le_of_ble_eq_true rfl) f77 rfl rfl rfl rfl (Nat.le_of_ble_eq_true rfl) wR_s0_0 dX9_heavy_2 (fun H locs hW => ?_)
  obtain ⟨T1, e2, h⟩ := nm_of h
  replace hW := wq_T e2 hW
  refine lv_aload_n hx hb dX9_heavy_5 rfl (lv_at hl 0 rfl) ?_
  refine lv_iload_n hx hb dX9_heavy_6 rfl (lv_at hl 1 rfl) ?_
  obtain ⟨r3, hr4, h⟩ := bd_of h
  refine wd_callV1 (As := [.int p0]) hC hW 0 wR_c0 rfl (c_X9_isLifter l D cy ad X T1 p0 r3 hr4) (cwV 1 hts (gu_V w_14_5 w_14_2 w_14_3 w_14_4 w_1_5) rfl rfl rfl hdX9_isLifter ⟨Nat.le_of_ble_eq_true rfl, Nat.le_of_ble_eq_true rfl⟩) rfl hl.1 rfl (Nat.le_of_ble_eq_true rfl) ⟨Nat.zero_le _, Nat.zero_le _⟩ dX9_heavy_7 (fun H locs hW => ?_)
  refine lv_if_ne (tgt := 15) hx hb dX9_heavy_10 (by decide) (fun c5 => ?_) (fun c5 => ?_)
  · replace h := ite_f h c5
    refine lv_aload_n hx hb dX9_heavy_15 rfl (lv_at hl 0 rfl) ?_
    obtain ⟨r6, hr7, h⟩ := bd_of h
    refine wd_callV0 (As := []) hC hW 0 wR_c0 rfl (c_X9_aimsMass l D cy ad X n T1 r6 hr7) (cwV 0 hts (gu_V w_28_7 w_28_4 w_28_5 w_28_6 w_1_5) rfl rfl rfl hdX9_aimsMass ⟨Nat.le_of_ble_eq_true rfl, Nat.le_of_ble_eq_true rfl⟩) rfl hl.1 rfl (Nat.le_of_ble_eq_true rfl) ⟨Nat.zero_le _, Nat.zero_le _⟩ dX9_heavy_16 (fun H locs hW => ?_)
    refine lv_aload_n hx hb dX9_heavy_19 rfl (lv_at hl 0 rfl) ?_
    refine lv_iload_n hx hb dX9_heavy_20 rfl (lv_at hl 1 rfl) ?_
    obtain ⟨r8, hr9, h⟩ := bd_of h
    refine wd_callV1 (As := [.int p0]) hC hW 0 wR_c0 rfl (c_X9_tellsFree l D cy ad X n r6 p0 r8 hr9) (cwV 1 hts (gu_V w_38_22 w_38_19 w_38_20 w_38_21 w_1_5) rfl rfl rfl hdX9_tellsFree ⟨Nat.le_of_ble_eq_true rfl, Nat.le_of_ble_eq_true rfl⟩) rfl hl.1 rfl (Nat.le_of_ble_eq_true rfl) ⟨Nat.zero_le _, Nat.zero_le _⟩ dX9_heavy_21 (fun H locs hW => ?_)
    obtain rfl := Option.some.inj h
    exact wd_iret hA hQ hC hr hk hW dX9_heavy_24
  · replace h := ite_t h c5
    refine lv_iconst (v := (-1)) hx hb dX9_heavy_13 (by decide) ?_
    obtain rfl := Option.some.inj h
    exact wd_iret hA hQ hC hr hk hW dX9_heavy_14
def m_X9_reach (n : Nat) (T : St) (p0 : Int32) (p1 : Int32) : Option (Int32 × St) :=
  nm (sI T 0 0) (fun T1 => (m_X9_isLifter T1 p0).bind (fun r3 => if r3 = 0 then (some ((-1), T1)) else ((m_X9_isTotal T1 p1).bind (fun r6 => if r6 = 0 then (some ((-1), T1)) else ((m_X9_aimsReach n T1 p1).bind (fun r9 => (m_X9_tellsFree n r9 p0).bind (fun r11 => some (r11.1, r11.2))))))))
set_option maxHeartbeats 4000000 in
set_option maxRecDepth 100000 in
theorem c_X9_reach (l : Launch) (D : va_G) (cy : Nat → ClassId) (ad : Nat → Nat) (X : va_W) (n : Nat) (T : St) (p0 : Int32) (p1 : Int32) (r : (Int32 × St)) (h : m_X9_reach n T p0 p1 = some r) : CT l yX9_reach (wu yX9_reach cX9_reach 3 (some .int)) 67 D cy [.ref (ad 0), .int p0, .int p1] (wR ad cy T ++ X) (some (.int r.1)) (wR ad cy r.2 ++ X) := by
  refine CT.mk (cc := cX9_reach) (maxL := 3) (ret := (some .int)) (own := RX9) (by decide) rfl rfl (Nat.le_of_ble_eq_true rfl) ?_
  intro p e s m args below meth c ls A Q hA hQ hC hr hk hW hl
  have hx := hC.1
  have hb := hC.2.1
  have hown := hC.2.2.2.1
  have hts := hC.2.2.2.2
  have hl : lv_has ls 3 [(0, .ref (ad 0)), (1, .int p0), (2, .int p1)] := hl
  have f77 := hts _ (wu_in w_6_14)
  have i9 := (fun w h => wu_in (inc_9 w h) : ∀ w ∈ u_ws RX9 TX9 40, w ∈ (wu yX9_reach cX9_reach 3 (some .int)))
  unfold m_X9_reach at h
  refine lv_aload_n hx hb dX9_reach_0 rfl (lv_at hl 0 rfl) ?_
  refine lv_iconst (v := 0) hx hb dX9_reach_1 (by decide) ?_
  refine wd_put hC i9 tyX9_ok nmX9 hW 0 wR_c0 rfl 0 (Nat.le_of_ble_eq_true rfl) f77 rfl rfl rfl rfl (Nat.le_of_ble_eq_true rfl) wR_s0_0 dX9_reach_2 (fun H locs hW => ?_)
  obtain ⟨T1, e2, h⟩ := nm_of h
  replace hW := wq_T e2 hW
  refine lv_aload_n hx hb dX9_reach_5 rfl (lv_at hl 0 rfl) ?_
  refine lv_iload_n hx hb dX9_reach_6 rfl (lv_at hl 1 rfl) ?_
  obtain ⟨r3, hr4, h⟩ := bd_of h
  refine wd_callV1 (As := [.int p0]) hC hW 0 wR_c0 rfl (c_X9_isLifter l D cy ad X T1 p0 r3 hr4) (cwV 1 hts (gu_V w_14_5 w_14_2 w_14_3 w_14_4 w_1_5) rfl rfl rfl hdX9_isLifter ⟨Nat.le_of_ble_eq_true rfl, Nat.le_of_ble_eq_true rfl⟩) rfl hl.1 rfl (Nat.le_of_ble_eq_true rfl) ⟨Nat.zero_le _, Nat.zero_le _⟩ dX9_reach_7 (fun H locs hW => ?_)
  refine lv_if_eq (tgt := 20) hx hb dX9_reach_10 (by decide) (fun c5 => ?_) (fun c5 => ?_)
  · replace h := ite_t h c5
    refine lv_iconst (v := (-1)) hx hb dX9_reach_20 (by decide) ?_
    obtain rfl := Option.some.inj h
    exact wd_iret hA hQ hC hr hk hW dX9_reach_21
  · replace h := ite_f h c5
    refine lv_iload_n hx hb dX9_reach_13 rfl (lv_at hl 2 rfl) ?_
    obtain ⟨r6, hr7, h⟩ := bd_of h
    refine wd_callS1 (As := [.int p1]) hC hW (c_X9_isTotal l D cy ad X T1 p1 r6 hr7) (va_cwS 1 hts (gu_S w_30_2 w_30_0 w_30_1 w_1_5) rfl rfl rfl hdX9_isTotal ⟨Nat.le_of_ble_eq_true rfl, Nat.le_of_ble_eq_true rfl⟩) rfl hl.1 rfl (Nat.le_of_ble_eq_true rfl) ⟨Nat.zero_le _, Nat.zero_le _⟩ dX9_reach_14 (fun H locs hW => ?_)
    refine lv_if_ne (tgt := 22) hx hb dX9_reach_17 (by decide) (fun c8 => ?_) (fun c8 => ?_)
    · replace h := ite_f h c8
      refine lv_aload_n hx hb dX9_reach_22 rfl (lv_at hl 0 rfl) ?_
      refine lv_iload_n hx hb dX9_reach_23 rfl (lv_at hl 2 rfl) ?_
      obtain ⟨r9, hr10, h⟩ := bd_of h
      refine wd_callV0 (As := [.int p1]) hC hW 0 wR_c0 rfl (c_X9_aimsReach l D cy ad X n T1 p1 r9 hr10) (cwV 1 hts (gu_V w_30_11 w_30_8 w_30_9 w_30_10 w_1_5) rfl rfl rfl hdX9_aimsReach ⟨Nat.le_of_ble_eq_true rfl, Nat.le_of_ble_eq_true rfl⟩) rfl hl.1 rfl (Nat.le_of_ble_eq_true rfl) ⟨Nat.zero_le _, Nat.zero_le _⟩ dX9_reach_24 (fun H locs hW => ?_)
      refine lv_aload_n hx hb dX9_reach_27 rfl (lv_at hl 0 rfl) ?_
      refine lv_iload_n hx hb dX9_reach_28 rfl (lv_at hl 1 rfl) ?_
      obtain ⟨r11, hr12, h⟩ := bd_of h
      refine wd_callV1 (As := [.int p0]) hC hW 0 wR_c0 rfl (c_X9_tellsFree l D cy ad X n r9 p0 r11 hr12) (cwV 1 hts (gu_V w_38_22 w_38_19 w_38_20 w_38_21 w_1_5) rfl rfl rfl hdX9_tellsFree ⟨Nat.le_of_ble_eq_true rfl, Nat.le_of_ble_eq_true rfl⟩) rfl hl.1 rfl (Nat.le_of_ble_eq_true rfl) ⟨Nat.zero_le _, Nat.zero_le _⟩ dX9_reach_29 (fun H locs hW => ?_)
      obtain rfl := Option.some.inj h
      exact wd_iret hA hQ hC hr hk hW dX9_reach_32
    · replace h := ite_t h c8
      refine lv_iconst (v := (-1)) hx hb dX9_reach_20 (by decide) ?_
      obtain rfl := Option.some.inj h
      exact wd_iret hA hQ hC hr hk hW dX9_reach_21
def m_X9_aim_L33 : Nat → St → Int32 → Int32 → Int32 → Int32 → Option (St × Int32)
  | 0, _, _, _, _, _ => none
  | n + 1, T, x1, x2, x3, x4 =>
    if x4 ≤ (x3 + 1) then (some (T, x3)) else ((m_X9_aimsReach n T ((x3 + x4) / 2)).bind (fun r12 => (m_X9_freeNow n r12 x1).bind (fun r14 => if r14.1 < x2 then (m_X9_aim_L33 n r14.2 x1 x2 x3 ((x3 + x4) / 2)) else (m_X9_aim_L33 n r14.2 x1 x2 ((x3 + x4) / 2) x4))))
theorem m_X9_aim_L33_0 (T : St) (x1 : Int32) (x2 : Int32) (x3 : Int32) (x4 : Int32) : m_X9_aim_L33 0 T x1 x2 x3 x4 = none := rfl
theorem m_X9_aim_L33_s {n : Nat} {T : St} {x1 : Int32} {x2 : Int32} {x3 : Int32} {x4 : Int32} : m_X9_aim_L33 (n + 1) T x1 x2 x3 x4 =
    (if x4 ≤ (x3 + 1) then (some (T, x3)) else ((m_X9_aimsReach n T ((x3 + x4) / 2)).bind (fun r12 => (m_X9_freeNow n r12 x1).bind (fun r14 => if r14.1 < x2 then (m_X9_aim_L33 n r14.2 x1 x2 x3 ((x3 + x4) / 2)) else (m_X9_aim_L33 n r14.2 x1 x2 ((x3 + x4) / 2) x4))))) := rfl
def m_X9_aim (n : Nat) (T : St) (p0 : Int32) (p1 : Int32) : Option (Int32 × St) :=
  nm (sI T 0 0) (fun T1 => (m_X9_isLifter T1 p0).bind (fun r3 => if r3 = 0 then (some ((-1), T1)) else ((m_X9_in T1 p1.toInt64 1 1000000).bind (fun r6 => if r6 = 0 then (some ((-1), T1)) else ((m_X9_aim_L33 n T1 p0 p1 0 121).bind (fun q9 => (m_X9_aimsReach n q9.1 q9.2).bind (fun r17 => (m_X9_freeNow n r17 p0).bind (fun r19 => nm (sI r19.2 1 0) (fun T21 => (m_X9_notes T21 r19.1.toInt64).bind (fun r23 => some (q9.2, r23)))))))))))
set_option maxHeartbeats 4000000 in
set_option maxRecDepth 100000 in
theorem c_X9_aim (l : Launch) (D : va_G) (cy : Nat → ClassId) (ad : Nat → Nat) (X : va_W) (n : Nat) (T : St) (p0 : Int32) (p1 : Int32) (r : (Int32 × St)) (h : m_X9_aim n T p0 p1 = some r) : CT l yX9_aim (wu yX9_aim cX9_aim 7 (some .int)) 6 D cy [.ref (ad 0), .int p0, .int p1] (wR ad cy T ++ X) (some (.int r.1)) (wR ad cy r.2 ++ X) := by
  refine CT.mk (cc := cX9_aim) (maxL := 7) (ret := (some .int)) (own := RX9) (by decide) rfl rfl (Nat.le_of_ble_eq_true rfl) ?_
  intro p e s m args below meth c ls A Q hA hQ hC hr hk hW hl
  have hx := hC.1
  have hb := hC.2.1
  have hown := hC.2.2.2.1
  have hts := hC.2.2.2.2
  have hl : lv_has ls 7 [(0, .ref (ad 0)), (1, .int p0), (2, .int p1)] := hl
  have f77 := hts _ (wu_in w_6_14)
  have i9 := (fun w h => wu_in (inc_9 w h) : ∀ w ∈ u_ws RX9 TX9 40, w ∈ (wu yX9_aim cX9_aim 7 (some .int)))
  have k299 := hts _ (wu_in w_33_15)
  have f81 := hts _ (wu_in w_19_2)
  unfold m_X9_aim at h
  refine lv_aload_n hx hb dX9_aim_0 rfl (lv_at hl 0 rfl) ?_
  refine lv_iconst (v := 0) hx hb dX9_aim_1 (by decide) ?_
  refine wd_put hC i9 tyX9_ok nmX9 hW 0 wR_c0 rfl 0 (Nat.le_of_ble_eq_true rfl) f77 rfl rfl rfl rfl (Nat.le_of_ble_eq_true rfl) wR_s0_0 dX9_aim_2 (fun H locs hW => ?_)
  obtain ⟨T1, e2, h⟩ := nm_of h
  replace hW := wq_T e2 hW
  refine lv_aload_n hx hb dX9_aim_5 rfl (lv_at hl 0 rfl) ?_
  refine lv_iload_n hx hb dX9_aim_6 rfl (lv_at hl 1 rfl) ?_
  obtain ⟨r3, hr4, h⟩ := bd_of h
  refine wd_callV1 (As := [.int p0]) hC hW 0 wR_c0 rfl (c_X9_isLifter l D cy ad X T1 p0 r3 hr4) (cwV 1 hts (gu_V w_14_5 w_14_2 w_14_3 w_14_4 w_1_5) rfl rfl rfl hdX9_isLifter ⟨Nat.le_of_ble_eq_true rfl, Nat.le_of_ble_eq_true rfl⟩) rfl hl.1 rfl (Nat.le_of_ble_eq_true rfl) ⟨Nat.zero_le _, Nat.zero_le _⟩ dX9_aim_7 (fun H locs hW => ?_)
  refine lv_if_eq (tgt := 25) hx hb dX9_aim_10 (by decide) (fun c5 => ?_) (fun c5 => ?_)
  · replace h := ite_t h c5
    refine lv_iconst (v := (-1)) hx hb dX9_aim_25 (by decide) ?_
    obtain rfl := Option.some.inj h
    exact wd_iret hA hQ hC hr hk hW dX9_aim_26
  · replace h := ite_f h c5
    refine lv_iload_n hx hb dX9_aim_13 rfl (lv_at hl 2 rfl) ?_
    refine lv_i2l (v := p1.toInt64) hx hb dX9_aim_14 rfl ?_
    refine lv_lconst (v := 1) hx hb dX9_aim_15 (by decide) ?_
    refine lv_ldc2 hx hb hown k299 dX9_aim_16 ?_
    obtain ⟨r6, hr7, h⟩ := bd_of h
    refine wd_callS1 (As := [.long p1.toInt64, .long 1, .long 1000000]) hC hW (c_X9_in l D cy ad X T1 p1.toInt64 1 1000000 r6 hr7) (va_cwS 3 hts (gu_S w_7_6 w_7_4 w_7_5 w_1_5) rfl rfl rfl hdX9_in ⟨Nat.le_of_ble_eq_true rfl, Nat.le_of_ble_eq_true rfl⟩) rfl hl.1 rfl (Nat.le_of_ble_eq_true rfl) ⟨Nat.zero_le _, Nat.zero_le _⟩ dX9_aim_19 (fun H locs hW => ?_)
    refine lv_if_ne (tgt := 27) hx hb dX9_aim_22 (by decide) (fun c8 => ?_) (fun c8 => ?_)
    · replace h := ite_f h c8
      refine lv_iconst (v := 0) hx hb dX9_aim_27 (by decide) ?_
      refine lv_istore_n (lv' := [(3, .int 0), (0, .ref (ad 0)), (1, .int p0), (2, .int p1)]) hx hb dX9_aim_28 rfl hl (by decide) rfl (fun ls hl => ?_)
      refine lv_bipush (v := 121) hx hb dX9_aim_29 (by decide) ?_
      refine lv_istore (lv' := [(4, .int 121), (3, .int 0), (0, .ref (ad 0)), (1, .int p0), (2, .int p1)]) hx hb dX9_aim_31 hl (by decide) rfl (fun ls hl => ?_)
      have hL33 : ∀ (n : Nat) (T : St) (x1 : Int32) (x2 : Int32) (x3 : Int32) (x4 : Int32)  (H : Heap) (locs : List Loc) (ls : Array Slot) (r : (St × Int32)), m_X9_aim_L33 n T x1 x2 x3 x4 = some r → Wd D cy A s (wR ad cy T ++ X) H locs → lv_has ls 7 [(0, .ref (ad 0)), (1, .int x1), (2, .int x2), (3, .int x3), (4, .int x4)] → (∀ (H : Heap) (locs : List Loc) (ls : Array Slot), Wd D cy A s (wR ad cy r.1 ++ X) H locs → lv_has ls 7 [(0, .ref (ad 0)), (1, .int x1), (2, .int x2), (3, .int r.2)] → W p l e (RM 6) s m args below meth c H locs 0 0 Q (F0 m 77 ls [])) → W p l e (RM 6) s m args below meth c H locs 0 0 Q (F0 m 33 ls []) := by
        intro n
        induction n with
        | zero =>
          intro T x1 x2 x3 x4  H locs ls r h
          exact absurd (h.symm.trans (m_X9_aim_L33_0 ..)) (by simp)
        | succ n ih =>
          intro T x1 x2 x3 x4  H locs ls r h hW hl kk
          rw [m_X9_aim_L33_s] at h
          refine lv_iload hx hb dX9_aim_33 (lv_at hl 4 rfl) ?_
          refine lv_iload_n hx hb dX9_aim_35 rfl (lv_at hl 3 rfl) ?_
          refine lv_iconst (v := 1) hx hb dX9_aim_36 (by decide) ?_
          refine lv_iadd hx hb dX9_aim_37 ?_
          refine lv_icmp_le (tgt := 77) hx hb dX9_aim_38 (by decide) (fun c11 => ?_) (fun c11 => ?_)
          · replace h := ite_t h c11
            obtain rfl := Option.some.inj h
            exact kk _ _ _ hW (lv_sub hl [0, 1, 2, 3] rfl)
          · replace h := ite_f h c11
            refine lv_iload_n hx hb dX9_aim_41 rfl (lv_at hl 3 rfl) ?_
            refine lv_iload hx hb dX9_aim_42 (lv_at hl 4 rfl) ?_
            refine lv_iadd hx hb dX9_aim_44 ?_
            refine lv_iconst (v := 2) hx hb dX9_aim_45 (by decide) ?_
            refine lv_idiv hx hb dX9_aim_46 (by decide) ?_
            refine lv_istore (lv' := [(5, .int ((x3 + x4) / 2)), (0, .ref (ad 0)), (1, .int x1), (2, .int x2), (3, .int x3), (4, .int x4)]) hx hb dX9_aim_47 hl (by decide) rfl (fun ls hl => ?_)
            refine lv_aload_n hx hb dX9_aim_49 rfl (lv_at hl 1 rfl) ?_
            refine lv_iload hx hb dX9_aim_50 (lv_at hl 0 rfl) ?_
            obtain ⟨r12, hr13, h⟩ := bd_of h
            refine wd_callV0 (As := [.int ((x3 + x4) / 2)]) hC hW 0 wR_c0 rfl (c_X9_aimsReach l D cy ad X n T ((x3 + x4) / 2) r12 hr13) (cwV 1 hts (gu_V w_30_11 w_30_8 w_30_9 w_30_10 w_1_5) rfl rfl rfl hdX9_aimsReach ⟨Nat.le_of_ble_eq_true rfl, Nat.le_of_ble_eq_true rfl⟩) rfl hl.1 rfl (Nat.le_of_ble_eq_true rfl) ⟨Nat.zero_le _, Nat.zero_le _⟩ dX9_aim_52 (fun H locs hW => ?_)
            refine lv_aload_n hx hb dX9_aim_55 rfl (lv_at hl 1 rfl) ?_
            refine lv_iload_n hx hb dX9_aim_56 rfl (lv_at hl 2 rfl) ?_
            obtain ⟨r14, hr15, h⟩ := bd_of h
            refine wd_callV1 (As := [.int x1]) hC hW 0 wR_c0 rfl (c_X9_freeNow l D cy ad X n r12 x1 r14 hr15) (cwV 1 hts (gu_V w_39_3 w_39_0 w_39_1 w_39_2 w_1_5) rfl rfl rfl hdX9_freeNow ⟨Nat.le_of_ble_eq_true rfl, Nat.le_of_ble_eq_true rfl⟩) rfl hl.1 rfl (Nat.le_of_ble_eq_true rfl) ⟨Nat.zero_le _, Nat.zero_le _⟩ dX9_aim_57 (fun H locs hW => ?_)
            refine lv_iload_n hx hb dX9_aim_60 rfl (lv_at hl 3 rfl) ?_
            refine lv_icmp_lt (tgt := 70) hx hb dX9_aim_61 (by decide) (fun c16 => ?_) (fun c16 => ?_)
            · replace h := ite_t h c16
              refine lv_iload hx hb dX9_aim_70 (lv_at hl 0 rfl) ?_
              refine lv_istore (lv' := [(4, .int ((x3 + x4) / 2)), (5, .int ((x3 + x4) / 2)), (0, .ref (ad 0)), (1, .int x1), (2, .int x2), (3, .int x3)]) hx hb dX9_aim_72 hl (by decide) rfl (fun ls hl => ?_)
              refine lv_goto (tgt := 33) hx hb dX9_aim_74 (by decide) ?_
              exact ih r14.2 x1 x2 x3 ((x3 + x4) / 2) _ _ _ r h hW (lv_sub hl [2, 3, 4, 5, 0] rfl) kk
            · replace h := ite_f h c16
              refine lv_iload hx hb dX9_aim_64 (lv_at hl 0 rfl) ?_
              refine lv_istore_n (lv' := [(3, .int ((x3 + x4) / 2)), (5, .int ((x3 + x4) / 2)), (0, .ref (ad 0)), (1, .int x1), (2, .int x2), (4, .int x4)]) hx hb dX9_aim_66 rfl hl (by decide) rfl (fun ls hl => ?_)
              refine lv_goto (tgt := 74) hx hb dX9_aim_67 (by decide) ?_
              refine lv_goto (tgt := 33) hx hb dX9_aim_74 (by decide) ?_
              exact ih r14.2 x1 x2 ((x3 + x4) / 2) x4 _ _ _ r h hW (lv_sub hl [2, 3, 4, 0, 5] rfl) kk
      obtain ⟨q9, hq10, h⟩ := bd_of h
      refine hL33 n T1 p0 p1 0 121  _ _ _ q9 hq10 hW (lv_sub hl [2, 3, 4, 1, 0] rfl) (fun H locs ls hW hl => ?_)
      refine lv_aload_n hx hb dX9_aim_77 rfl (lv_at hl 0 rfl) ?_
      refine lv_iload_n hx hb dX9_aim_78 rfl (lv_at hl 3 rfl) ?_
      obtain ⟨r17, hr18, h⟩ := bd_of h
      refine wd_callV0 (As := [.int q9.2]) hC hW 0 wR_c0 rfl (c_X9_aimsReach l D cy ad X n q9.1 q9.2 r17 hr18) (cwV 1 hts (gu_V w_30_11 w_30_8 w_30_9 w_30_10 w_1_5) rfl rfl rfl hdX9_aimsReach ⟨Nat.le_of_ble_eq_true rfl, Nat.le_of_ble_eq_true rfl⟩) rfl hl.1 rfl (Nat.le_of_ble_eq_true rfl) ⟨Nat.zero_le _, Nat.zero_le _⟩ dX9_aim_79 (fun H locs hW => ?_)
      refine lv_aload_n hx hb dX9_aim_82 rfl (lv_at hl 0 rfl) ?_
      refine lv_iload_n hx hb dX9_aim_83 rfl (lv_at hl 1 rfl) ?_
      obtain ⟨r19, hr20, h⟩ := bd_of h
      refine wd_callV1 (As := [.int p0]) hC hW 0 wR_c0 rfl (c_X9_freeNow l D cy ad X n r17 p0 r19 hr20) (cwV 1 hts (gu_V w_39_3 w_39_0 w_39_1 w_39_2 w_1_5) rfl rfl rfl hdX9_freeNow ⟨Nat.le_of_ble_eq_true rfl, Nat.le_of_ble_eq_true rfl⟩) rfl hl.1 rfl (Nat.le_of_ble_eq_true rfl) ⟨Nat.zero_le _, Nat.zero_le _⟩ dX9_aim_84 (fun H locs hW => ?_)
      refine lv_i2l (v := r19.1.toInt64) hx hb dX9_aim_87 rfl ?_
      refine lv_lstore (lv' := [(5, .long r19.1.toInt64), (0, .ref (ad 0)), (1, .int p0), (2, .int p1), (3, .int q9.2)]) hx hb dX9_aim_88 hl (by decide) rfl (fun ls hl => ?_)
      refine lv_aload_n hx hb dX9_aim_90 rfl (lv_at hl 1 rfl) ?_
      refine lv_iconst (v := 0) hx hb dX9_aim_91 (by decide) ?_
      refine wd_put hC i9 tyX9_ok nmX9 hW 0 wR_c0 rfl 1 (Nat.le_of_ble_eq_true rfl) f81 rfl rfl rfl rfl (Nat.le_of_ble_eq_true rfl) wR_s0_1 dX9_aim_92 (fun H locs hW => ?_)
      obtain ⟨T21, e22, h⟩ := nm_of h
      replace hW := wq_T e22 hW
      refine lv_aload_n hx hb dX9_aim_95 rfl (lv_at hl 1 rfl) ?_
      refine lv_lload hx hb dX9_aim_96 (lv_at hl 0 rfl) ?_
      obtain ⟨r23, hr24, h⟩ := bd_of h
      refine wd_callV0 (As := [.long r19.1.toInt64]) hC hW 0 wR_c0 rfl (c_X9_notes l D cy ad X T21 r19.1.toInt64 r23 hr24) (cwV 1 hts (gu_V w_19_14 w_19_11 w_19_12 w_19_13 w_1_5) rfl rfl rfl hdX9_notes ⟨Nat.le_of_ble_eq_true rfl, Nat.le_of_ble_eq_true rfl⟩) rfl hl.1 rfl (Nat.le_of_ble_eq_true rfl) ⟨Nat.zero_le _, Nat.zero_le _⟩ dX9_aim_98 (fun H locs hW => ?_)
      refine lv_iload_n hx hb dX9_aim_101 rfl (lv_at hl 4 rfl) ?_
      obtain rfl := Option.some.inj h
      exact wd_iret hA hQ hC hr hk hW dX9_aim_102
    · replace h := ite_t h c8
      refine lv_iconst (v := (-1)) hx hb dX9_aim_25 (by decide) ?_
      obtain rfl := Option.some.inj h
      exact wd_iret hA hQ hC hr hk hW dX9_aim_26
def m_X9_against (n : Nat) (T : St) (p0 : Int32) (p1 : Int32) : Option (Int32 × St) :=
  nm (sI T 0 0) (fun T1 => (m_X9_isLifter T1 p0).bind (fun r3 => if r3 = 0 then (some ((-1), T1)) else ((m_X9_isLifter T1 p1).bind (fun r6 => if r6 = 0 then (some ((-1), T1)) else (if p0 = p1 then (some ((-1), T1)) else ((m_X9_aimsBeat n T1 p0 p1).bind (fun r10 => (m_X9_tellsFree n r10 p0).bind (fun r12 => some (r12.1, r12.2)))))))))
set_option maxHeartbeats 4000000 in
set_option maxRecDepth 100000 in
theorem c_X9_against (l : Launch) (D : va_G) (cy : Nat → ClassId) (ad : Nat → Nat) (X : va_W) (n : Nat) (T : St) (p0 : Int32) (p1 : Int32) (r : (Int32 × St)) (h : m_X9_against n T p0 p1 = some r) : CT l yX9_against (wu yX9_against cX9_against 3 (some .int)) 69 D cy [.ref (ad 0), .int p0, .int p1] (wR ad cy T ++ X) (some (.int r.1)) (wR ad cy r.2 ++ X) := by
  refine CT.mk (cc := cX9_against) (maxL := 3) (ret := (some .int)) (own := RX9) (by decide) rfl rfl (Nat.le_of_ble_eq_true rfl) ?_
  intro p e s m args below meth c ls A Q hA hQ hC hr hk hW hl
  have hx := hC.1
  have hb := hC.2.1
  have hown := hC.2.2.2.1
  have hts := hC.2.2.2.2
  have hl : lv_has ls 3 [(0, .ref (ad 0)), (1, .int p0), (2, .int p1)] := hl
  have f77 := hts _ (wu_in w_6_14)
  have i9 := (fun w h => wu_in (inc_9 w h) : ∀ w ∈ u_ws RX9 TX9 40, w ∈ (wu yX9_against cX9_against 3 (some .int)))
  unfold m_X9_against at h
  refine lv_aload_n hx hb dX9_against_0 rfl (lv_at hl 0 rfl) ?_
  refine lv_iconst (v := 0) hx hb dX9_against_1 (by decide) ?_
  refine wd_put hC i9 tyX9_ok nmX9 hW 0 wR_c0 rfl 0 (Nat.le_of_ble_eq_true rfl) f77 rfl rfl rfl rfl (Nat.le_of_ble_eq_true rfl) wR_s0_0 dX9_against_2 (fun H locs hW => ?_)
  obtain ⟨T1, e2, h⟩ := nm_of h
  replace hW := wq_T e2 hW
  refine lv_aload_n hx hb dX9_against_5 rfl (lv_at hl 0 rfl) ?_
  refine lv_iload_n hx hb dX9_against_6 rfl (lv_at hl 1 rfl) ?_
  obtain ⟨r3, hr4, h⟩ := bd_of h
  refine wd_callV1 (As := [.int p0]) hC hW 0 wR_c0 rfl (c_X9_isLifter l D cy ad X T1 p0 r3 hr4) (cwV 1 hts (gu_V w_14_5 w_14_2 w_14_3 w_14_4 w_1_5) rfl rfl rfl hdX9_isLifter ⟨Nat.le_of_ble_eq_true rfl, Nat.le_of_ble_eq_true rfl⟩) rfl hl.1 rfl (Nat.le_of_ble_eq_true rfl) ⟨Nat.zero_le _, Nat.zero_le _⟩ dX9_against_7 (fun H locs hW => ?_)
  refine lv_if_eq (tgt := 26) hx hb dX9_against_10 (by decide) (fun c5 => ?_) (fun c5 => ?_)
  · replace h := ite_t h c5
    refine lv_iconst (v := (-1)) hx hb dX9_against_26 (by decide) ?_
    obtain rfl := Option.some.inj h
    exact wd_iret hA hQ hC hr hk hW dX9_against_27
  · replace h := ite_f h c5
    refine lv_aload_n hx hb dX9_against_13 rfl (lv_at hl 0 rfl) ?_
    refine lv_iload_n hx hb dX9_against_14 rfl (lv_at hl 2 rfl) ?_
    obtain ⟨r6, hr7, h⟩ := bd_of h
    refine wd_callV1 (As := [.int p1]) hC hW 0 wR_c0 rfl (c_X9_isLifter l D cy ad X T1 p1 r6 hr7) (cwV 1 hts (gu_V w_14_5 w_14_2 w_14_3 w_14_4 w_1_5) rfl rfl rfl hdX9_isLifter ⟨Nat.le_of_ble_eq_true rfl, Nat.le_of_ble_eq_true rfl⟩) rfl hl.1 rfl (Nat.le_of_ble_eq_true rfl) ⟨Nat.zero_le _, Nat.zero_le _⟩ dX9_against_15 (fun H locs hW => ?_)
    refine lv_if_eq (tgt := 26) hx hb dX9_against_18 (by decide) (fun c8 => ?_) (fun c8 => ?_)
    · replace h := ite_t h c8
      refine lv_iconst (v := (-1)) hx hb dX9_against_26 (by decide) ?_
      obtain rfl := Option.some.inj h
      exact wd_iret hA hQ hC hr hk hW dX9_against_27
    · replace h := ite_f h c8
      refine lv_iload_n hx hb dX9_against_21 rfl (lv_at hl 1 rfl) ?_
      refine lv_iload_n hx hb dX9_against_22 rfl (lv_at hl 2 rfl) ?_
      refine lv_icmp_ne (tgt := 28) hx hb dX9_against_23 (by decide) (fun c9 => ?_) (fun c9 => ?_)
      · replace h := ite_f h c9
        refine lv_aload_n hx hb dX9_against_28 rfl (lv_at hl 0 rfl) ?_
        refine lv_iload_n hx hb dX9_against_29 rfl (lv_at hl 1 rfl) ?_
        refine lv_iload_n hx hb dX9_against_30 rfl (lv_at hl 2 rfl) ?_
        obtain ⟨r10, hr11, h⟩ := bd_of h
        refine wd_callV0 (As := [.int p0, .int p1]) hC hW 0 wR_c0 rfl (c_X9_aimsBeat l D cy ad X n T1 p0 p1 r10 hr11) (cwV 2 hts (gu_V w_32_14 w_32_11 w_32_12 w_32_13 w_1_5) rfl rfl rfl hdX9_aimsBeat ⟨Nat.le_of_ble_eq_true rfl, Nat.le_of_ble_eq_true rfl⟩) rfl hl.1 rfl (Nat.le_of_ble_eq_true rfl) ⟨Nat.zero_le _, Nat.zero_le _⟩ dX9_against_31 (fun H locs hW => ?_)
        refine lv_aload_n hx hb dX9_against_34 rfl (lv_at hl 0 rfl) ?_
        refine lv_iload_n hx hb dX9_against_35 rfl (lv_at hl 1 rfl) ?_
        obtain ⟨r12, hr13, h⟩ := bd_of h
        refine wd_callV1 (As := [.int p0]) hC hW 0 wR_c0 rfl (c_X9_tellsFree l D cy ad X n r10 p0 r12 hr13) (cwV 1 hts (gu_V w_38_22 w_38_19 w_38_20 w_38_21 w_1_5) rfl rfl rfl hdX9_tellsFree ⟨Nat.le_of_ble_eq_true rfl, Nat.le_of_ble_eq_true rfl⟩) rfl hl.1 rfl (Nat.le_of_ble_eq_true rfl) ⟨Nat.zero_le _, Nat.zero_le _⟩ dX9_against_36 (fun H locs hW => ?_)
        obtain rfl := Option.some.inj h
        exact wd_iret hA hQ hC hr hk hW dX9_against_39
      · replace h := ite_t h c9
        refine lv_iconst (v := (-1)) hx hb dX9_against_26 (by decide) ?_
        obtain rfl := Option.some.inj h
        exact wd_iret hA hQ hC hr hk hW dX9_against_27
def m_X9_gold (n : Nat) (T : St) (p0 : Int32) : Option (Int32 × St) :=
  nm (sI T 0 0) (fun T1 => (m_X9_isLifter T1 p0).bind (fun r3 => if r3 = 0 then (some ((-1), T1)) else ((m_X9_aimsWin n T1 p0).bind (fun r6 => (m_X9_tellsFree n r6 p0).bind (fun r8 => some (r8.1, r8.2))))))
set_option maxHeartbeats 4000000 in
set_option maxRecDepth 100000 in
theorem c_X9_gold (l : Launch) (D : va_G) (cy : Nat → ClassId) (ad : Nat → Nat) (X : va_W) (n : Nat) (T : St) (p0 : Int32) (r : (Int32 × St)) (h : m_X9_gold n T p0 = some r) : CT l yX9_gold (wu yX9_gold cX9_gold 2 (some .int)) 69 D cy [.ref (ad 0), .int p0] (wR ad cy T ++ X) (some (.int r.1)) (wR ad cy r.2 ++ X) := by
  refine CT.mk (cc := cX9_gold) (maxL := 2) (ret := (some .int)) (own := RX9) (by decide) rfl rfl (Nat.le_of_ble_eq_true rfl) ?_
  intro p e s m args below meth c ls A Q hA hQ hC hr hk hW hl
  have hx := hC.1
  have hb := hC.2.1
  have hown := hC.2.2.2.1
  have hts := hC.2.2.2.2
  have hl : lv_has ls 2 [(0, .ref (ad 0)), (1, .int p0)] := hl
  have f77 := hts _ (wu_in w_6_14)
  have i9 := (fun w h => wu_in (inc_9 w h) : ∀ w ∈ u_ws RX9 TX9 40, w ∈ (wu yX9_gold cX9_gold 2 (some .int)))
  unfold m_X9_gold at h
  refine lv_aload_n hx hb dX9_gold_0 rfl (lv_at hl 0 rfl) ?_
  refine lv_iconst (v := 0) hx hb dX9_gold_1 (by decide) ?_
  refine wd_put hC i9 tyX9_ok nmX9 hW 0 wR_c0 rfl 0 (Nat.le_of_ble_eq_true rfl) f77 rfl rfl rfl rfl (Nat.le_of_ble_eq_true rfl) wR_s0_0 dX9_gold_2 (fun H locs hW => ?_)
  obtain ⟨T1, e2, h⟩ := nm_of h
  replace hW := wq_T e2 hW
  refine lv_aload_n hx hb dX9_gold_5 rfl (lv_at hl 0 rfl) ?_
  refine lv_iload_n hx hb dX9_gold_6 rfl (lv_at hl 1 rfl) ?_
  obtain ⟨r3, hr4, h⟩ := bd_of h
  refine wd_callV1 (As := [.int p0]) hC hW 0 wR_c0 rfl (c_X9_isLifter l D cy ad X T1 p0 r3 hr4) (cwV 1 hts (gu_V w_14_5 w_14_2 w_14_3 w_14_4 w_1_5) rfl rfl rfl hdX9_isLifter ⟨Nat.le_of_ble_eq_true rfl, Nat.le_of_ble_eq_true rfl⟩) rfl hl.1 rfl (Nat.le_of_ble_eq_true rfl) ⟨Nat.zero_le _, Nat.zero_le _⟩ dX9_gold_7 (fun H locs hW => ?_)
  refine lv_if_ne (tgt := 15) hx hb dX9_gold_10 (by decide) (fun c5 => ?_) (fun c5 => ?_)
  · replace h := ite_f h c5
    refine lv_aload_n hx hb dX9_gold_15 rfl (lv_at hl 0 rfl) ?_
    refine lv_iload_n hx hb dX9_gold_16 rfl (lv_at hl 1 rfl) ?_
    obtain ⟨r6, hr7, h⟩ := bd_of h
    refine wd_callV0 (As := [.int p0]) hC hW 0 wR_c0 rfl (c_X9_aimsWin l D cy ad X n T1 p0 r6 hr7) (cwV 1 hts (gu_V w_33_14 w_33_11 w_33_12 w_33_13 w_1_5) rfl rfl rfl hdX9_aimsWin ⟨Nat.le_of_ble_eq_true rfl, Nat.le_of_ble_eq_true rfl⟩) rfl hl.1 rfl (Nat.le_of_ble_eq_true rfl) ⟨Nat.zero_le _, Nat.zero_le _⟩ dX9_gold_17 (fun H locs hW => ?_)
    refine lv_aload_n hx hb dX9_gold_20 rfl (lv_at hl 0 rfl) ?_
    refine lv_iload_n hx hb dX9_gold_21 rfl (lv_at hl 1 rfl) ?_
    obtain ⟨r8, hr9, h⟩ := bd_of h
    refine wd_callV1 (As := [.int p0]) hC hW 0 wR_c0 rfl (c_X9_tellsFree l D cy ad X n r6 p0 r8 hr9) (cwV 1 hts (gu_V w_38_22 w_38_19 w_38_20 w_38_21 w_1_5) rfl rfl rfl hdX9_tellsFree ⟨Nat.le_of_ble_eq_true rfl, Nat.le_of_ble_eq_true rfl⟩) rfl hl.1 rfl (Nat.le_of_ble_eq_true rfl) ⟨Nat.zero_le _, Nat.zero_le _⟩ dX9_gold_22 (fun H locs hW => ?_)
    obtain rfl := Option.some.inj h
    exact wd_iret hA hQ hC hr hk hW dX9_gold_25
  · replace h := ite_t h c5
    refine lv_iconst (v := (-1)) hx hb dX9_gold_13 (by decide) ?_
    obtain rfl := Option.some.inj h
    exact wd_iret hA hQ hC hr hk hW dX9_gold_14
def m_X9_line_L82 : Nat → St → Int32 → Int32 → Int32 → Int32 → Int32 → Option (Int32 × St)
  | 0, _, _, _, _, _, _ => none
  | n + 1, T, x1, x3, x4, x5, x6 =>
    if 3 ≤ x6 then (some (T.1 1, T)) else ((m_X9_laysBehind n T x1 x6).bind (fun r24 => ((if x6 = x4 then (some 1) else (some 0) : Option (Int32))).bind (fun q27 => ((if q27 = 0 then (some 0) else ((m_X9_roundOf r24 x1).bind (fun r50 => some r50)) : Option (Int32))).bind (fun q30 => ((if q27 = 0 then (some 1) else ((m_X9_leastOf r24 x1).bind (fun r48 => some r48)) : Option (Int32))).bind (fun q33 => ((if q27 = 0 then (some 0) else ((m_X9_of r24 x1 4).bind (fun r46 => some r46)) : Option (Int32))).bind (fun q36 => ((if q27 = 0 then (some 0) else ((m_X9_of r24 x1 (7 + x6)).bind (fun r44 => some r44)) : Option (Int32))).bind (fun q39 => (m_X9_follows n r24 x1 x6 q30 q33 q36 q39 x5 x3).bind (fun r41 => if r41.1 = 0 then (some (r41.2.1 1, r41.2)) else (m_X9_line_L82 n r41.2 x1 x3 x4 (x5 + r41.1) (x6 + 1))))))))))
theorem m_X9_line_L82_0 (T : St) (x1 : Int32) (x3 : Int32) (x4 : Int32) (x5 : Int32) (x6 : Int32) : m_X9_line_L82 0 T x1 x3 x4 x5 x6 = none := rfl
theorem m_X9_line_L82_s {n : Nat} {T : St} {x1 : Int32} {x3 : Int32} {x4 : Int32} {x5 : Int32} {x6 : Int32} : m_X9_line_L82 (n + 1) T x1 x3 x4 x5 x6 =
    (if 3 ≤ x6 then (some (T.1 1, T)) else ((m_X9_laysBehind n T x1 x6).bind (fun r24 => ((if x6 = x4 then (some 1) else (some 0) : Option (Int32))).bind (fun q27 => ((if q27 = 0 then (some 0) else ((m_X9_roundOf r24 x1).bind (fun r50 => some r50)) : Option (Int32))).bind (fun q30 => ((if q27 = 0 then (some 1) else ((m_X9_leastOf r24 x1).bind (fun r48 => some r48)) : Option (Int32))).bind (fun q33 => ((if q27 = 0 then (some 0) else ((m_X9_of r24 x1 4).bind (fun r46 => some r46)) : Option (Int32))).bind (fun q36 => ((if q27 = 0 then (some 0) else ((m_X9_of r24 x1 (7 + x6)).bind (fun r44 => some r44)) : Option (Int32))).bind (fun q39 => (m_X9_follows n r24 x1 x6 q30 q33 q36 q39 x5 x3).bind (fun r41 => if r41.1 = 0 then (some (r41.2.1 1, r41.2)) else (m_X9_line_L82 n r41.2 x1 x3 x4 (x5 + r41.1) (x6 + 1))))))))))) := rfl
def m_X9_line (n : Nat) (T : St) (p0 : Int32) (p1 : Int32) (p2 : Int32) : Option (Int32 × St) :=
  nm (sI T 0 0) (fun T1 => (m_X9_isLifter T1 p0).bind (fun r3 => if r3 = 0 then (some ((-1), T1)) else ((m_X9_in T1 p1.toInt64 0 1).bind (fun r6 => if r6 = 0 then (some ((-1), T1)) else (((if p1 = 0 then ((m_X9_aimsMass n T1).bind (fun r54 => some r54)) else ((m_X9_aimsWin n T1 p0).bind (fun r52 => some r52)) : Option (St))).bind (fun q10 => nm (sI q10 1 0) (fun T12 => (m_X9_isOut T12 p0).bind (fun r14 => if r14 = 0 then ((m_X9_isOver T12).bind (fun r17 => if r17 = 0 then (ck 0 63 ((m_X9_sumAhead n T12 p0).bind (fun r21 => m_X9_line_L82 n T12 p0 p2 (T12.2.1 11 ((0 : Int32).toNatClampNeg)) r21 (T12.2.1 11 ((0 : Int32).toNatClampNeg))))) else (some (0, T12)))) else (some (0, T12))))))))))
set_option maxHeartbeats 4000000 in
set_option maxRecDepth 100000 in
theorem c_X9_line (l : Launch) (D : va_G) (cy : Nat → ClassId) (ad : Nat → Nat) (X : va_W) (n : Nat) (T : St) (p0 : Int32) (p1 : Int32) (p2 : Int32) (r : (Int32 × St)) (h : m_X9_line n T p0 p1 p2 = some r) : CT l yX9_line (wu yX9_line cX9_line 9 (some .int)) 69 D cy [.ref (ad 0), .int p0, .int p1, .int p2] (wR ad cy T ++ X) (some (.int r.1)) (wR ad cy r.2 ++ X) := by
  refine CT.mk (cc := cX9_line) (maxL := 9) (ret := (some .int)) (own := RX9) (by decide) rfl rfl (Nat.le_of_ble_eq_true rfl) ?_
  intro p e s m args below meth c ls A Q hA hQ hC hr hk hW hl
  have hx := hC.1
  have hb := hC.2.1
  have hown := hC.2.2.2.1
  have hts := hC.2.2.2.2
  have hl : lv_has ls 9 [(0, .ref (ad 0)), (1, .int p0), (2, .int p1), (3, .int p2)] := hl
  have f77 := hts _ (wu_in w_6_14)
  have i9 := (fun w h => wu_in (inc_9 w h) : ∀ w ∈ u_ws RX9 TX9 40, w ∈ (wu yX9_line cX9_line 9 (some .int)))
  have f81 := hts _ (wu_in w_19_2)
  have f32 := hts _ (wu_in w_5_10)
  unfold m_X9_line at h
  refine lv_aload_n hx hb dX9_line_0 rfl (lv_at hl 0 rfl) ?_
  refine lv_iconst (v := 0) hx hb dX9_line_1 (by decide) ?_
  refine wd_put hC i9 tyX9_ok nmX9 hW 0 wR_c0 rfl 0 (Nat.le_of_ble_eq_true rfl) f77 rfl rfl rfl rfl (Nat.le_of_ble_eq_true rfl) wR_s0_0 dX9_line_2 (fun H locs hW => ?_)
  obtain ⟨T1, e2, h⟩ := nm_of h
  replace hW := wq_T e2 hW
  refine lv_aload_n hx hb dX9_line_5 rfl (lv_at hl 0 rfl) ?_
  refine lv_iload_n hx hb dX9_line_6 rfl (lv_at hl 1 rfl) ?_
  obtain ⟨r3, hr4, h⟩ := bd_of h
  refine wd_callV1 (As := [.int p0]) hC hW 0 wR_c0 rfl (c_X9_isLifter l D cy ad X T1 p0 r3 hr4) (cwV 1 hts (gu_V w_14_5 w_14_2 w_14_3 w_14_4 w_1_5) rfl rfl rfl hdX9_isLifter ⟨Nat.le_of_ble_eq_true rfl, Nat.le_of_ble_eq_true rfl⟩) rfl hl.1 rfl (Nat.le_of_ble_eq_true rfl) ⟨Nat.zero_le _, Nat.zero_le _⟩ dX9_line_7 (fun H locs hW => ?_)
  refine lv_if_eq (tgt := 23) hx hb dX9_line_10 (by decide) (fun c5 => ?_) (fun c5 => ?_)
  · replace h := ite_t h c5
    refine lv_iconst (v := (-1)) hx hb dX9_line_23 (by decide) ?_
    obtain rfl := Option.some.inj h
    exact wd_iret hA hQ hC hr hk hW dX9_line_24
  · replace h := ite_f h c5
    refine lv_iload_n hx hb dX9_line_13 rfl (lv_at hl 2 rfl) ?_
    refine lv_i2l (v := p1.toInt64) hx hb dX9_line_14 rfl ?_
    refine lv_lconst (v := 0) hx hb dX9_line_15 (by decide) ?_
    refine lv_lconst (v := 1) hx hb dX9_line_16 (by decide) ?_
    obtain ⟨r6, hr7, h⟩ := bd_of h
    refine wd_callS1 (As := [.long p1.toInt64, .long 0, .long 1]) hC hW (c_X9_in l D cy ad X T1 p1.toInt64 0 1 r6 hr7) (va_cwS 3 hts (gu_S w_7_6 w_7_4 w_7_5 w_1_5) rfl rfl rfl hdX9_in ⟨Nat.le_of_ble_eq_true rfl, Nat.le_of_ble_eq_true rfl⟩) rfl hl.1 rfl (Nat.le_of_ble_eq_true rfl) ⟨Nat.zero_le _, Nat.zero_le _⟩ dX9_line_17 (fun H locs hW => ?_)
    refine lv_if_ne (tgt := 25) hx hb dX9_line_20 (by decide) (fun c8 => ?_) (fun c8 => ?_)
    · replace h := ite_f h c8
      refine lv_iload_n hx hb dX9_line_25 rfl (lv_at hl 2 rfl) ?_
      obtain ⟨q10, hq11, h⟩ := bd_of h
      have hJ41 : ∀ (H : Heap) (locs : List Loc) (ls : Array Slot), Wd D cy A s (wR ad cy q10 ++ X) H locs → lv_has ls 9 [(0, .ref (ad 0)), (1, .int p0), (2, .int p1), (3, .int p2)] → W p l e (RM 69) s m args below meth c H locs 0 0 Q (F0 m 41 ls []) := by
        intro H locs ls hW hl
        refine lv_aload_n hx hb dX9_line_41 rfl (lv_at hl 0 rfl) ?_
        refine lv_iconst (v := 0) hx hb dX9_line_42 (by decide) ?_
        refine wd_put hC i9 tyX9_ok nmX9 hW 0 wR_c0 rfl 1 (Nat.le_of_ble_eq_true rfl) f81 rfl rfl rfl rfl (Nat.le_of_ble_eq_true rfl) wR_s0_1 dX9_line_43 (fun H locs hW => ?_)
        obtain ⟨T12, e13, h⟩ := nm_of h
        replace hW := wq_T e13 hW
        refine lv_aload_n hx hb dX9_line_46 rfl (lv_at hl 0 rfl) ?_
        refine lv_iload_n hx hb dX9_line_47 rfl (lv_at hl 1 rfl) ?_
        obtain ⟨r14, hr15, h⟩ := bd_of h
        refine wd_callV1 (As := [.int p0]) hC hW 0 wR_c0 rfl (c_X9_isOut l D cy ad X T12 p0 r14 hr15) (cwV 1 hts (gu_V w_11_20 w_11_17 w_11_18 w_11_19 w_1_5) rfl rfl rfl hdX9_isOut ⟨Nat.le_of_ble_eq_true rfl, Nat.le_of_ble_eq_true rfl⟩) rfl hl.1 rfl (Nat.le_of_ble_eq_true rfl) ⟨Nat.zero_le _, Nat.zero_le _⟩ dX9_line_48 (fun H locs hW => ?_)
        refine lv_if_ne (tgt := 61) hx hb dX9_line_51 (by decide) (fun c16 => ?_) (fun c16 => ?_)
        · replace h := ite_f h c16
          refine lv_iconst (v := 0) hx hb dX9_line_61 (by decide) ?_
          obtain rfl := Option.some.inj h
          exact wd_iret hA hQ hC hr hk hW dX9_line_62
        · replace h := ite_t h c16
          refine lv_aload_n hx hb dX9_line_54 rfl (lv_at hl 0 rfl) ?_
          obtain ⟨r17, hr18, h⟩ := bd_of h
          refine wd_callV1 (As := []) hC hW 0 wR_c0 rfl (c_X9_isOver l D cy ad X T12 r17 hr18) (cwV 0 hts (gu_V w_11_16 w_11_13 w_11_14 w_11_15 w_1_5) rfl rfl rfl hdX9_isOver ⟨Nat.le_of_ble_eq_true rfl, Nat.le_of_ble_eq_true rfl⟩) rfl hl.1 rfl (Nat.le_of_ble_eq_true rfl) ⟨Nat.zero_le _, Nat.zero_le _⟩ dX9_line_55 (fun H locs hW => ?_)
          refine lv_if_eq (tgt := 63) hx hb dX9_line_58 (by decide) (fun c19 => ?_) (fun c19 => ?_)
          · replace h := ite_t h c19
            refine lv_aload_n hx hb dX9_line_63 rfl (lv_at hl 0 rfl) ?_
            refine wd_get hC i9 hW 0 wR_c0 rfl 11 (Nat.le_of_ble_eq_true rfl) f32 rfl rfl dX9_line_64 ?_
            refine lv_iconst (v := 0) hx hb dX9_line_67 (by decide) ?_
            obtain ⟨hi20, h⟩ := ck_of h
            refine wd_iald hC hW 8 wR_c8 hi20 dX9_line_68 ?_
            refine lv_istore (lv' := [(4, .int (T12.2.1 11 ((0 : Int32).toNatClampNeg))), (0, .ref (ad 0)), (1, .int p0), (2, .int p1), (3, .int p2)]) hx hb dX9_line_69 hl (by decide) rfl (fun ls hl => ?_)
            refine lv_aload_n hx hb dX9_line_71 rfl (lv_at hl 1 rfl) ?_
            refine lv_iload_n hx hb dX9_line_72 rfl (lv_at hl 2 rfl) ?_
            obtain ⟨r21, hr22, h⟩ := bd_of h
            refine wd_callV1 (As := [.int p0]) hC hW 0 wR_c0 rfl (c_X9_sumAhead l D cy ad X n T12 p0 r21 hr22) (cwV 1 hts (gu_V w_28_19 w_28_16 w_28_17 w_28_18 w_1_5) rfl rfl rfl hdX9_sumAhead ⟨Nat.le_of_ble_eq_true rfl, Nat.le_of_ble_eq_true rfl⟩) rfl hl.1 rfl (Nat.le_of_ble_eq_true rfl) ⟨Nat.zero_le _, Nat.zero_le _⟩ dX9_line_73 (fun H locs hW => ?_)
            refine lv_istore (lv' := [(5, .int r21), (4, .int (T12.2.1 11 ((0 : Int32).toNatClampNeg))), (0, .ref (ad 0)), (1, .int p0), (2, .int p1), (3, .int p2)]) hx hb dX9_line_76 hl (by decide) rfl (fun ls hl => ?_)
            refine lv_iload hx hb dX9_line_78 (lv_at hl 1 rfl) ?_
            refine lv_istore (lv' := [(6, .int (T12.2.1 11 ((0 : Int32).toNatClampNeg))), (5, .int r21), (4, .int (T12.2.1 11 ((0 : Int32).toNatClampNeg))), (0, .ref (ad 0)), (1, .int p0), (2, .int p1), (3, .int p2)]) hx hb dX9_line_80 hl (by decide) rfl (fun ls hl => ?_)
            have hL82 : ∀ (n : Nat) (T : St) (x1 : Int32) (x3 : Int32) (x4 : Int32) (x5 : Int32) (x6 : Int32)  (H : Heap) (locs : List Loc) (ls : Array Slot), m_X9_line_L82 n T x1 x3 x4 x5 x6 = some r → Wd D cy A s (wR ad cy T ++ X) H locs → lv_has ls 9 [(0, .ref (ad 0)), (1, .int x1), (3, .int x3), (4, .int x4), (5, .int x5), (6, .int x6)] → W p l e (RM 69) s m args below meth c H locs 0 0 Q (F0 m 82 ls []) := by
              intro n
              induction n with
              | zero =>
                intro T x1 x3 x4 x5 x6  H locs ls h
                exact absurd (h.symm.trans (m_X9_line_L82_0 ..)) (by simp)
              | succ n ih =>
                intro T x1 x3 x4 x5 x6  H locs ls h hW hl
                rw [m_X9_line_L82_s] at h
                refine lv_iload hx hb dX9_line_82 (lv_at hl 5 rfl) ?_
                refine lv_iconst (v := 3) hx hb dX9_line_84 (by decide) ?_
                refine lv_icmp_ge (tgt := 206) hx hb dX9_line_85 (by decide) (fun c23 => ?_) (fun c23 => ?_)
                · replace h := ite_t h c23
                  refine lv_aload_n hx hb dX9_line_206 rfl (lv_at hl 0 rfl) ?_
                  refine wd_get hC i9 hW 0 wR_c0 rfl 1 (Nat.le_of_ble_eq_true rfl) f81 rfl rfl dX9_line_207 ?_
                  obtain rfl := Option.some.inj h
                  exact wd_iret hA hQ hC hr hk hW dX9_line_210
                · replace h := ite_f h c23
                  refine lv_aload_n hx hb dX9_line_88 rfl (lv_at hl 0 rfl) ?_
                  refine lv_iload_n hx hb dX9_line_89 rfl (lv_at hl 1 rfl) ?_
                  refine lv_iload hx hb dX9_line_90 (lv_at hl 5 rfl) ?_
                  obtain ⟨r24, hr25, h⟩ := bd_of h
                  refine wd_callV0 (As := [.int x1, .int x6]) hC hW 0 wR_c0 rfl (c_X9_laysBehind l D cy ad X n T x1 x6 r24 hr25) (cwV 2 hts (gu_V w_39_8 w_39_5 w_39_6 w_39_7 w_1_5) rfl rfl rfl hdX9_laysBehind ⟨Nat.le_of_ble_eq_true rfl, Nat.le_of_ble_eq_true rfl⟩) rfl hl.1 rfl (Nat.le_of_ble_eq_true rfl) ⟨Nat.zero_le _, Nat.zero_le _⟩ dX9_line_92 (fun H locs hW => ?_)
                  refine lv_iload hx hb dX9_line_95 (lv_at hl 5 rfl) ?_
                  refine lv_iload hx hb dX9_line_97 (lv_at hl 3 rfl) ?_
                  obtain ⟨q27, hq28, h⟩ := bd_of h
                  have hJ107 : ∀ (H : Heap) (locs : List Loc) (ls : Array Slot), Wd D cy A s (wR ad cy r24 ++ X) H locs → lv_has ls 9 [(0, .ref (ad 0)), (1, .int x1), (3, .int x3), (4, .int x4), (5, .int x5), (6, .int x6)] → W p l e (RM 69) s m args below meth c H locs 0 0 Q (F0 m 107 ls [.int q27]) := by
                    intro H locs ls hW hl
                    refine lv_istore (lv' := [(7, .int q27), (0, .ref (ad 0)), (1, .int x1), (3, .int x3), (4, .int x4), (5, .int x5), (6, .int x6)]) hx hb dX9_line_107 hl (by decide) rfl (fun ls hl => ?_)
                    refine lv_aload_n hx hb dX9_line_109 rfl (lv_at hl 1 rfl) ?_
                    refine lv_iload_n hx hb dX9_line_110 rfl (lv_at hl 2 rfl) ?_
                    refine lv_iload hx hb dX9_line_111 (lv_at hl 6 rfl) ?_
                    refine lv_iload hx hb dX9_line_113 (lv_at hl 0 rfl) ?_
                    obtain ⟨q30, hq31, h⟩ := bd_of h
                    have hJ127 : ∀ (H : Heap) (locs : List Loc) (ls : Array Slot), Wd D cy A s (wR ad cy r24 ++ X) H locs → lv_has ls 9 [(7, .int q27), (0, .ref (ad 0)), (1, .int x1), (3, .int x3), (4, .int x4), (5, .int x5), (6, .int x6)] → W p l e (RM 69) s m args below meth c H locs 0 0 Q (F0 m 127 ls [.int q30, .int x6, .int x1, .ref (ad 0)]) := by
                      intro H locs ls hW hl
                      refine lv_iload hx hb dX9_line_127 (lv_at hl 0 rfl) ?_
                      obtain ⟨q33, hq34, h⟩ := bd_of h
                      have hJ141 : ∀ (H : Heap) (locs : List Loc) (ls : Array Slot), Wd D cy A s (wR ad cy r24 ++ X) H locs → lv_has ls 9 [(7, .int q27), (0, .ref (ad 0)), (1, .int x1), (3, .int x3), (4, .int x4), (5, .int x5), (6, .int x6)] → W p l e (RM 69) s m args below meth c H locs 0 0 Q (F0 m 141 ls [.int q33, .int q30, .int x6, .int x1, .ref (ad 0)]) := by
                        intro H locs ls hW hl
                        refine lv_iload hx hb dX9_line_141 (lv_at hl 0 rfl) ?_
                        obtain ⟨q36, hq37, h⟩ := bd_of h
                        have hJ156 : ∀ (H : Heap) (locs : List Loc) (ls : Array Slot), Wd D cy A s (wR ad cy r24 ++ X) H locs → lv_has ls 9 [(7, .int q27), (0, .ref (ad 0)), (1, .int x1), (3, .int x3), (4, .int x4), (5, .int x5), (6, .int x6)] → W p l e (RM 69) s m args below meth c H locs 0 0 Q (F0 m 156 ls [.int q36, .int q33, .int q30, .int x6, .int x1, .ref (ad 0)]) := by
                          intro H locs ls hW hl
                          refine lv_iload hx hb dX9_line_156 (lv_at hl 0 rfl) ?_
                          obtain ⟨q39, hq40, h⟩ := bd_of h
                          have hJ175 : ∀ (H : Heap) (locs : List Loc) (ls : Array Slot), Wd D cy A s (wR ad cy r24 ++ X) H locs → lv_has ls 9 [(7, .int q27), (0, .ref (ad 0)), (1, .int x1), (3, .int x3), (4, .int x4), (5, .int x5), (6, .int x6)] → W p l e (RM 69) s m args below meth c H locs 0 0 Q (F0 m 175 ls [.int q39, .int q36, .int q33, .int q30, .int x6, .int x1, .ref (ad 0)]) := by
                            intro H locs ls hW hl
                            refine lv_iload hx hb dX9_line_175 (lv_at hl 5 rfl) ?_
                            refine lv_iload_n hx hb dX9_line_177 rfl (lv_at hl 3 rfl) ?_
                            obtain ⟨r41, hr42, h⟩ := bd_of h
                            refine wd_callV1 (As := [.int x1, .int x6, .int q30, .int q33, .int q36, .int q39, .int x5, .int x3]) hC hW 0 wR_c0 rfl (c_X9_follows l D cy ad X n r24 x1 x6 q30 q33 q36 q39 x5 x3 r41 hr42) (cwV 8 hts (gu_V w_42_13 w_42_10 w_42_11 w_42_12 w_1_5) rfl rfl rfl hdX9_follows ⟨Nat.le_of_ble_eq_true rfl, Nat.le_of_ble_eq_true rfl⟩) rfl hl.1 rfl (Nat.le_of_ble_eq_true rfl) ⟨Nat.zero_le _, Nat.zero_le _⟩ dX9_line_178 (fun H locs hW => ?_)
                            refine lv_istore (lv' := [(8, .int r41.1), (7, .int q27), (0, .ref (ad 0)), (1, .int x1), (3, .int x3), (4, .int x4), (5, .int x5), (6, .int x6)]) hx hb dX9_line_181 hl (by decide) rfl (fun ls hl => ?_)
                            refine lv_iload hx hb dX9_line_183 (lv_at hl 0 rfl) ?_
                            refine lv_if_ne (tgt := 193) hx hb dX9_line_185 (by decide) (fun c43 => ?_) (fun c43 => ?_)
                            · replace h := ite_f h c43
                              refine lv_iload hx hb dX9_line_193 (lv_at hl 6 rfl) ?_
                              refine lv_iload hx hb dX9_line_195 (lv_at hl 0 rfl) ?_
                              refine lv_iadd hx hb dX9_line_197 ?_
                              refine lv_istore (lv' := [(5, .int (x5 + r41.1)), (8, .int r41.1), (7, .int q27), (0, .ref (ad 0)), (1, .int x1), (3, .int x3), (4, .int x4), (6, .int x6)]) hx hb dX9_line_198 hl (by decide) rfl (fun ls hl => ?_)
                              refine lv_iinc (v := x6 + 1) (lv' := [(6, .int (x6 + 1)), (5, .int (x5 + r41.1)), (8, .int r41.1), (7, .int q27), (0, .ref (ad 0)), (1, .int x1), (3, .int x3), (4, .int x4)]) hx hb dX9_line_200 hl (k := 7) rfl rfl (by decide) rfl (fun ls hl => ?_)
                              refine lv_goto (tgt := 82) hx hb dX9_line_203 (by decide) ?_
                              exact ih r41.2 x1 x3 x4 (x5 + r41.1) (x6 + 1) _ _ _ h hW (lv_sub hl [4, 5, 6, 7, 1, 0] rfl)
                            · replace h := ite_t h c43
                              refine lv_aload_n hx hb dX9_line_188 rfl (lv_at hl 2 rfl) ?_
                              refine wd_get hC i9 hW 0 wR_c0 rfl 1 (Nat.le_of_ble_eq_true rfl) f81 rfl rfl dX9_line_189 ?_
                              obtain rfl := Option.some.inj h
                              exact wd_iret hA hQ hC hr hk hW dX9_line_192
                          replace h := hq40
                          refine lv_if_eq (tgt := 174) hx hb dX9_line_158 (by decide) (fun c38 => ?_) (fun c38 => ?_)
                          · replace h := ite_t h c38
                            refine lv_iconst (v := 0) hx hb dX9_line_174 (by decide) ?_
                            obtain rfl := Option.some.inj h
                            exact hJ175 _ _ _ hW (lv_sub hl [0, 1, 2, 3, 4, 5, 6] rfl)
                          · replace h := ite_f h c38
                            refine lv_aload_n hx hb dX9_line_161 rfl (lv_at hl 1 rfl) ?_
                            refine lv_iload_n hx hb dX9_line_162 rfl (lv_at hl 2 rfl) ?_
                            refine lv_bipush (v := 7) hx hb dX9_line_163 (by decide) ?_
                            refine lv_iload hx hb dX9_line_165 (lv_at hl 6 rfl) ?_
                            refine lv_iadd hx hb dX9_line_167 ?_
                            obtain ⟨r44, hr45, h⟩ := bd_of h
                            refine wd_callV1 (As := [.int x1, .int (7 + x6)]) hC hW 0 wR_c0 rfl (c_X9_of l D cy ad X r24 x1 (7 + x6) r44 hr45) (cwV 2 hts (gu_V w_12_0 w_11_21 w_11_22 w_11_23 w_1_5) rfl rfl rfl hdX9_of ⟨Nat.le_of_ble_eq_true rfl, Nat.le_of_ble_eq_true rfl⟩) rfl hl.1 rfl (Nat.le_of_ble_eq_true rfl) ⟨Nat.zero_le _, Nat.zero_le _⟩ dX9_line_168 (fun H locs hW => ?_)
                            refine lv_goto (tgt := 175) hx hb dX9_line_171 (by decide) ?_
                            obtain rfl := Option.some.inj h
                            exact hJ175 _ _ _ hW (lv_sub hl [0, 1, 2, 3, 4, 5, 6] rfl)
                        replace h := hq37
                        refine lv_if_eq (tgt := 155) hx hb dX9_line_143 (by decide) (fun c35 => ?_) (fun c35 => ?_)
                        · replace h := ite_t h c35
                          refine lv_iconst (v := 0) hx hb dX9_line_155 (by decide) ?_
                          obtain rfl := Option.some.inj h
                          exact hJ156 _ _ _ hW (lv_sub hl [0, 1, 2, 3, 4, 5, 6] rfl)
                        · replace h := ite_f h c35
                          refine lv_aload_n hx hb dX9_line_146 rfl (lv_at hl 1 rfl) ?_
                          refine lv_iload_n hx hb dX9_line_147 rfl (lv_at hl 2 rfl) ?_
                          refine lv_iconst (v := 4) hx hb dX9_line_148 (by decide) ?_
                          obtain ⟨r46, hr47, h⟩ := bd_of h
                          refine wd_callV1 (As := [.int x1, .int 4]) hC hW 0 wR_c0 rfl (c_X9_of l D cy ad X r24 x1 4 r46 hr47) (cwV 2 hts (gu_V w_12_0 w_11_21 w_11_22 w_11_23 w_1_5) rfl rfl rfl hdX9_of ⟨Nat.le_of_ble_eq_true rfl, Nat.le_of_ble_eq_true rfl⟩) rfl hl.1 rfl (Nat.le_of_ble_eq_true rfl) ⟨Nat.zero_le _, Nat.zero_le _⟩ dX9_line_149 (fun H locs hW => ?_)
                          refine lv_goto (tgt := 156) hx hb dX9_line_152 (by decide) ?_
                          obtain rfl := Option.some.inj h
                          exact hJ156 _ _ _ hW (lv_sub hl [0, 1, 2, 3, 4, 5, 6] rfl)
                      replace h := hq34
                      refine lv_if_eq (tgt := 140) hx hb dX9_line_129 (by decide) (fun c32 => ?_) (fun c32 => ?_)
                      · replace h := ite_t h c32
                        refine lv_iconst (v := 1) hx hb dX9_line_140 (by decide) ?_
                        obtain rfl := Option.some.inj h
                        exact hJ141 _ _ _ hW (lv_sub hl [0, 1, 2, 3, 4, 5, 6] rfl)
                      · replace h := ite_f h c32
                        refine lv_aload_n hx hb dX9_line_132 rfl (lv_at hl 1 rfl) ?_
                        refine lv_iload_n hx hb dX9_line_133 rfl (lv_at hl 2 rfl) ?_
                        obtain ⟨r48, hr49, h⟩ := bd_of h
                        refine wd_callV1 (As := [.int x1]) hC hW 0 wR_c0 rfl (c_X9_leastOf l D cy ad X r24 x1 r48 hr49) (cwV 1 hts (gu_V w_17_11 w_17_8 w_17_9 w_17_10 w_1_5) rfl rfl rfl hdX9_leastOf ⟨Nat.le_of_ble_eq_true rfl, Nat.le_of_ble_eq_true rfl⟩) rfl hl.1 rfl (Nat.le_of_ble_eq_true rfl) ⟨Nat.zero_le _, Nat.zero_le _⟩ dX9_line_134 (fun H locs hW => ?_)
                        refine lv_goto (tgt := 141) hx hb dX9_line_137 (by decide) ?_
                        obtain rfl := Option.some.inj h
                        exact hJ141 _ _ _ hW (lv_sub hl [0, 1, 2, 3, 4, 5, 6] rfl)
                    replace h := hq31
                    refine lv_if_eq (tgt := 126) hx hb dX9_line_115 (by decide) (fun c29 => ?_) (fun c29 => ?_)
                    · replace h := ite_t h c29
                      refine lv_iconst (v := 0) hx hb dX9_line_126 (by decide) ?_
                      obtain rfl := Option.some.inj h
                      exact hJ127 _ _ _ hW (lv_sub hl [0, 1, 2, 3, 4, 5, 6] rfl)
                    · replace h := ite_f h c29
                      refine lv_aload_n hx hb dX9_line_118 rfl (lv_at hl 1 rfl) ?_
                      refine lv_iload_n hx hb dX9_line_119 rfl (lv_at hl 2 rfl) ?_
                      obtain ⟨r50, hr51, h⟩ := bd_of h
                      refine wd_callV1 (As := [.int x1]) hC hW 0 wR_c0 rfl (c_X9_roundOf l D cy ad X r24 x1 r50 hr51) (cwV 1 hts (gu_V w_28_15 w_28_12 w_28_13 w_28_14 w_1_5) rfl rfl rfl hdX9_roundOf ⟨Nat.le_of_ble_eq_true rfl, Nat.le_of_ble_eq_true rfl⟩) rfl hl.1 rfl (Nat.le_of_ble_eq_true rfl) ⟨Nat.zero_le _, Nat.zero_le _⟩ dX9_line_120 (fun H locs hW => ?_)
                      refine lv_goto (tgt := 127) hx hb dX9_line_123 (by decide) ?_
                      obtain rfl := Option.some.inj h
                      exact hJ127 _ _ _ hW (lv_sub hl [0, 1, 2, 3, 4, 5, 6] rfl)
                  replace h := hq28
                  refine lv_icmp_ne (tgt := 106) hx hb dX9_line_99 (by decide) (fun c26 => ?_) (fun c26 => ?_)
                  · replace h := ite_f h c26
                    refine lv_iconst (v := 0) hx hb dX9_line_106 (by decide) ?_
                    obtain rfl := Option.some.inj h
                    exact hJ107 _ _ _ hW (lv_sub hl [0, 1, 2, 3, 4, 5] rfl)
                  · replace h := ite_t h c26
                    refine lv_iconst (v := 1) hx hb dX9_line_102 (by decide) ?_
                    refine lv_goto (tgt := 107) hx hb dX9_line_103 (by decide) ?_
                    obtain rfl := Option.some.inj h
                    exact hJ107 _ _ _ hW (lv_sub hl [0, 1, 2, 3, 4, 5] rfl)
            exact hL82 n T12 p0 p2 (T12.2.1 11 ((0 : Int32).toNatClampNeg)) r21 (T12.2.1 11 ((0 : Int32).toNatClampNeg))  _ _ _ h hW (lv_sub hl [3, 4, 6, 2, 1, 0] rfl)
          · replace h := ite_f h c19
            refine lv_iconst (v := 0) hx hb dX9_line_61 (by decide) ?_
            obtain rfl := Option.some.inj h
            exact wd_iret hA hQ hC hr hk hW dX9_line_62
      replace h := hq11
      refine lv_if_ne (tgt := 36) hx hb dX9_line_26 (by decide) (fun c9 => ?_) (fun c9 => ?_)
      · replace h := ite_f h c9
        refine lv_aload_n hx hb dX9_line_36 rfl (lv_at hl 0 rfl) ?_
        refine lv_iload_n hx hb dX9_line_37 rfl (lv_at hl 1 rfl) ?_
        obtain ⟨r52, hr53, h⟩ := bd_of h
        refine wd_callV0 (As := [.int p0]) hC hW 0 wR_c0 rfl (c_X9_aimsWin l D cy ad X n T1 p0 r52 hr53) (cwV 1 hts (gu_V w_33_14 w_33_11 w_33_12 w_33_13 w_1_5) rfl rfl rfl hdX9_aimsWin ⟨Nat.le_of_ble_eq_true rfl, Nat.le_of_ble_eq_true rfl⟩) rfl hl.1 rfl (Nat.le_of_ble_eq_true rfl) ⟨Nat.zero_le _, Nat.zero_le _⟩ dX9_line_38 (fun H locs hW => ?_)
        obtain rfl := Option.some.inj h
        exact hJ41 _ _ _ hW (lv_sub hl [0, 1, 2, 3] rfl)
      · replace h := ite_t h c9
        refine lv_aload_n hx hb dX9_line_29 rfl (lv_at hl 0 rfl) ?_
        obtain ⟨r54, hr55, h⟩ := bd_of h
        refine wd_callV0 (As := []) hC hW 0 wR_c0 rfl (c_X9_aimsMass l D cy ad X n T1 r54 hr55) (cwV 0 hts (gu_V w_28_7 w_28_4 w_28_5 w_28_6 w_1_5) rfl rfl rfl hdX9_aimsMass ⟨Nat.le_of_ble_eq_true rfl, Nat.le_of_ble_eq_true rfl⟩) rfl hl.1 rfl (Nat.le_of_ble_eq_true rfl) ⟨Nat.zero_le _, Nat.zero_le _⟩ dX9_line_30 (fun H locs hW => ?_)
        refine lv_goto (tgt := 41) hx hb dX9_line_33 (by decide) ?_
        obtain rfl := Option.some.inj h
        exact hJ41 _ _ _ hW (lv_sub hl [0, 1, 2, 3] rfl)
    · replace h := ite_t h c8
      refine lv_iconst (v := (-1)) hx hb dX9_line_23 (by decide) ?_
      obtain rfl := Option.some.inj h
      exact wd_iret hA hQ hC hr hk hW dX9_line_24
