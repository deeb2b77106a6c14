/-! ===== what is thrown ===== -/
abbrev NSE : String := "java/util/NoSuchElementException"
abbrev xw0 : List Cond := vx_at0 RX8 277 NSE ["java/lang/RuntimeException", "java/lang/Exception"]
def exN : List MethodName := [Bundle.init0 "java/lang/RuntimeException", Bundle.init0 "java/lang/Exception", Bundle.init0 Bundle.tN]
def EX (U : State) : Prop := (∀ x ∈ exN, va_Nw (.declares x) U) ∧ va_Nw (.castable NSE NSE) U
theorem EX.warm {s U : State} (h : EX s) (hW : s.WarmedH U.vm) : EX U := ⟨fun x hx => va_Nw.warmD hW (h.1 x hx), va_tabs rfl (rfl : (s.setVm U.vm).vm = U.vm) (by rw [Cond.castable_setVm hW.alike]; exact h.2)⟩
theorem EX.same {u U : State} (h : u.vm = U.vm) (hN : EX u) : EX U := ⟨fun x hx => va_Nw.same rfl h (hN.1 x hx), va_Nw.same rfl h hN.2⟩
theorem xw_split : xw0.all (fun w => goodWord w || decide (w ∈ exN.map Cond.declares ++ [Cond.castable NSE NSE])) = true := by decide +kernel
theorem xw_ot : ∀ w ∈ Cond.classLink RX8 275 NSE :: Cond.initialized NSE :: xw0, vx_ot w = true := by decide +kernel
theorem good_law : wsL_law.all goodWord = true := all_ap good_law0 (by simp [List.all_filter])
theorem xw_hat {args : Array Value} {s : State} {Ts : List Cond} (hts : ∀ w ∈ Ts, w.before args s = true) (hin : ∀ w ∈ xw0.filter goodWord, w ∈ Ts) (hE : EX s) : ∀ w ∈ xw0, w.before args s = true := by
  intro w hw
  have h := List.all_eq_true.mp xw_split w hw
  by_cases hg : goodWord w = true
  · exact hts w (hin w (List.mem_filter.mpr ⟨hw, hg⟩))
  · have h2 : w ∈ exN.map Cond.declares ++ [Cond.castable NSE NSE] := by
      simp only [Bool.or_eq_true, hg, decide_eq_true_eq, false_or] at h
      simpa using h
    rcases List.mem_append.mp h2 with h3 | h3
    · obtain ⟨x, hx, rfl⟩ := List.mem_map.mp h3
      exact va_Nw.use rfl (hE.1 x hx)
    · rw [List.mem_singleton.mp h3]
      exact va_Nw.use rfl hE.2
/-- where the two statics of Throwable lie -/
def ZZ (A : Nat → Prop) (U : State) (H : Heap) : Prop := vx_Zq Bundle.tN "UNASSIGNED_STACK" Bundle.steD A U H ∧ vx_Zq Bundle.tN "SUPPRESSED_SENTINEL" Bundle.listD A U H
theorem ZZ.moved {A : Nat → Prop} {u U : State} {H : Heap} (hvm : u.vm.Alike U.vm) (h : ZZ A u H) : ZZ A U H := ⟨h.1.moved hvm, h.2.moved hvm⟩
theorem ZZ.kept {A : Nat → Prop} {U : State} {H H1 : Heap} (h : ZZ A U H) (hq : ∀ a : Nat, a < H.size → ¬ A a → H1[a]? = H[a]?) : ZZ A U H1 := ⟨h.1.kept hq, h.2.kept hq⟩
theorem ZZ.narrow {A B : Nat → Prop} {U : State} {H : Heap} (h : ZZ A U H) (hAB : ∀ q, B q → A q) : ZZ B U H := ⟨h.1.narrow hAB, h.2.narrow hAB⟩
def CPx (D : va_G) (cy : Nat → ClassId) (w : va_W) (sz : Nat) (U : State) : Prop := CP D cy w sz U ∧ EX U ∧ ZZ (va_A w sz) U U.heap
theorem CPx.blind {av : List Value} {D : va_G} {cy : Nat → ClassId} {w : va_W} {sz : Nat} : FrameBlind (va_Pc av (CPx D cy w sz)) := fun a U g mk q => by
  obtain ⟨q0, hq, hE, hZ⟩ := q
  obtain ⟨-, hq2⟩ := CP.blind (av := av) a U g mk ⟨q0, hq⟩
  exact ⟨q0, hq2, EX.same (u := U) (U := U.calling g mk a) rfl hE, ZZ.moved (u := U) (U := U.calling g mk a) (Vm.Alike.refl U.vm) hZ⟩
def BXr (D : va_G) (cy : Nat → ClassId) (w : va_W) : String → Unit → State → Prop := fun E _ t => E = NSE ∧ va_P D vwCl w t.heap ∧ va_K D vwCl (TY cy) t
abbrev wx_row : List Cond := .code yX8_row cX8_row 2 (some .long) :: wsL_law
abbrev wx_lrow : List Cond := .codeWith yL_row cL_row 4 (some .int) [(0, 8, 11, 13)] :: wsL_law
theorem in_law {w : Cond} (h : w ∈ wsL_law0) : w ∈ wsL_law := List.mem_append_left _ h
theorem gl_1 {w : Cond} (h : w ∈ wsL_law) : (w.onTables && w.keeps) = true ∨ ∃ ty, w = .arrayClass ty := good_of_word (List.all_eq_true.mp good_law w h)
set_option maxHeartbeats 4000000 in
set_option maxRecDepth 100000 in
/-- NextLoad.row beyond the numbers: it throws -/
theorem c_X8_row_x (l : Launch) (htr : l.stackTraces = false) (D : va_G) (cy : Nat → ClassId) (ad : Nat → Nat) (X : va_W) (S : St) (p0 : Int32) (hout : p0 < 0 ∨ S.1 0 ≤ p0 ∨ 9 ≤ p0) (sz : Nat) : vx_Met l yX8_row wx_row (RMa 6 1 6) (va_Pc [.ref (ad 0), .int p0] (CPx D cy (wC ad cy S ++ X) sz)) (va_Ql (fun _ (_ : Unit) => False) (fun _ _ => True) (va_A (wC ad cy S ++ X) sz)) (vx_X (fun _ => True) (BXr D cy (wC ad cy S ++ X)) (va_A (wC ad cy S ++ X) sz)) 1 6 (va_A (wC ad cy S ++ X) sz) := by
  refine vx_ofW (cc := cX8_row) (maxL := 2) (ret := some .long) (by decide) rfl ?_
  intro p e s m args below meth c s₁ B hml htab hv
  obtain ⟨rfl, ⟨hsz, hP, hK, hD0, hN⟩, hE, hZ⟩ := hv
  subst hsz
  have hl := lv_entry [.ref (ad 0), .int p0] (n := 2) (Nat.le_of_ble_eq_true rfl)
  rw [lg_entry_eq]
  generalize (lg_sl ([.ref (ad 0), .int p0]) ++ List.replicate (2 - (lg_sl ([.ref (ad 0), .int p0])).length) Slot.unset).toArray = ls at hl ⊢
  have hl : lv_has ls 2 [(0, .ref (ad 0)), (1, .int p0)] := hl
  have hts := atoms_spec (ws := wx_row) B.pre
  have ho : s.vm.findClass RX8 = some m.cls := findClass_of_methodNamed B.named
  have hC : CallFix p m c cX8_row 2 s #[.ref (ad 0), .int p0] wx_row RX8 := ⟨B.exec, B.bytes, hml, ho, hts⟩
  have hx := B.exec
  have hb := B.bytes
  have hW : Wd D cy (va_A (wC ad cy S ++ X) s.heap.size) s (wC ad cy S ++ X) s.heap [] := ⟨hK, hP, hD0.self, va_S.rf, fun q h => Or.inr h, hN⟩
  have i8 : ∀ w ∈ u_ws RX8 TX8 12, w ∈ wx_row := fun w h => List.mem_cons_of_mem _ (in_law (inc_8 w h))
  have f65 := hts _ (List.mem_cons_of_mem _ (in_law w_2_18))
  have f61 := hts _ (List.mem_cons_of_mem _ (in_law w_2_17))
  have kthrow : ∀ (rest : List Value), rest = [] → W p l e (RMa 6 1 6) s m #[.ref (ad 0), .int p0] below meth c s.heap [] 0 0 (vx_MQ below (va_Ql (fun _ (_ : Unit) => False) (fun _ _ => True) (va_A (wC ad cy S ++ X) s.heap.size)) (vx_X (fun _ => True) (BXr D cy (wC ad cy S ++ X)) (va_A (wC ad cy S ++ X) s.heap.size)) #[.ref (ad 0), .int p0] s 1 6 (va_A (wC ad cy S ++ X) s.heap.size)) (F0 m 21 ls rest) := by
    intro rest hrest
    subst hrest
    refine vx_throw0 (names := ["java/lang/RuntimeException", "java/lang/Exception"]) (cls := NSE) hx hb htr ho (by decide +kernel) (by decide +kernel) (hts _ (List.mem_cons_of_mem _ (in_law w_51_14))) (hts _ (List.mem_cons_of_mem _ (in_law w_51_15))) (xw_hat hts (fun w h => List.mem_cons_of_mem _ (List.mem_append_right _ h)) hE) xw_ot hZ.1 hZ.2 va_S.rf (hl.1.trans hml.symm) dX8_row_21 dX8_row_24 dX8_row_25 dX8_row_28 (fun x hx => absurd (htab x hx) id) (Nat.le_of_ble_eq_true rfl) (Nat.le_of_ble_eq_true rfl) (Nat.le_of_ble_eq_true rfl) (Nat.le_of_ble_eq_true rfl) B.notSynchronized (fun t hvm h1 h2 => ?_) (fun z hz => nomatch hz) (Nat.le_refl 1) (Nat.le_refl 6)
    exact ⟨(), trivial, ⟨rfl, hP.kept (fun k q hq => h2 q.1 ((hP k q hq).lt)), va_K.moved hvm hK⟩, h1, fun q hq _ => h2 q hq⟩
  refine lv_iload_n hx hb dX8_row_0 rfl (lv_at hl 1 rfl) ?_
  refine lv_if_lt (tgt := 21) hx hb dX8_row_1 (by decide) (fun c1 => kthrow _ rfl) (fun c1 => ?_)
  refine lv_iload_n hx hb dX8_row_4 rfl (lv_at hl 1 rfl) ?_
  refine lv_aload_n hx hb dX8_row_5 rfl (lv_at hl 0 rfl) ?_
  refine wd_get hC i8 hW 0 wC_c0 rfl 9 (Nat.le_of_ble_eq_true rfl) f65 rfl rfl dX8_row_6 ?_
  refine lv_icmp_ge (tgt := 21) hx hb dX8_row_9 (by decide) (fun c2 => kthrow _ rfl) (fun c2 => ?_)
  refine lv_iload_n hx hb dX8_row_12 rfl (lv_at hl 1 rfl) ?_
  refine lv_aload_n hx hb dX8_row_13 rfl (lv_at hl 0 rfl) ?_
  refine wd_get hC i8 hW 0 wC_c0 rfl 8 (Nat.le_of_ble_eq_true rfl) f61 rfl rfl dX8_row_14 ?_
  refine wd_alen hC hW 58 1 wC_c58 rfl (v := 9) rfl dX8_row_17 ?_
  refine lv_icmp_lt (tgt := 29) hx hb dX8_row_18 (by decide) (fun c3 => ?_) (fun c3 => kthrow _ rfl)
  rcases hout with h | h | h
  · exact absurd h c1
  · exact absurd h c2
  · exact absurd c3 (by rw [Int32.lt_iff_toInt_lt]; rw [Int32.le_iff_toInt_le] at h; omega)
set_option maxHeartbeats 4000000 in
set_option maxRecDepth 100000 in
/-- the law's row, within the numbers -/
theorem c_L_row_in (l : Launch) (D : va_G) (cy : Nat → ClassId) (ad : Nat → Nat) (X : va_W) (S : St) (p0 : Int32) (o : Nat) (v : Nat → Int64) (r : Int64 × St) (h : m_X8_rowN S p0 = some r) (sz : Nat) : Met l yL_row wx_lrow (RM 1) (va_Pc [.ref (ad 0), .int p0, .ref o] (CP D cy (wC ad cy S ++ ([(o, .inl (cy 1, 1, .inr (.inl v)))] ++ X)) sz)) (CQ D cy (wC ad cy S ++ ([(o, .inl (cy 1, 1, .inr (.inl v)))] ++ X)) (some (.int 0)) (wC ad cy r.2 ++ ([(o, .inl (cy 1, 1, .inr (.inl (vp_updL v 0 r.1))))] ++ X)) sz) 0 0 (va_A (wC ad cy S ++ ([(o, .inl (cy 1, 1, .inr (.inl v)))] ++ X)) sz) := by
  refine va_MetW (cc := cL_row) (maxL := 4) (ret := some .int) (by decide) rfl ?_
  intro p e s m args below meth c s₁ B hml hv
  obtain ⟨rfl, hsz, hP, hK, hD0, hN⟩ := hv
  subst hsz
  have hl := lv_entry [.ref (ad 0), .int p0, .ref o] (n := 4) (Nat.le_of_ble_eq_true rfl)
  rw [lg_entry_eq]
  generalize (lg_sl ([.ref (ad 0), .int p0, .ref o]) ++ List.replicate (4 - (lg_sl ([.ref (ad 0), .int p0, .ref o])).length) Slot.unset).toArray = ls at hl ⊢
  have hl : lv_has ls 4 [(0, .ref (ad 0)), (1, .int p0), (2, .ref o)] := hl
  have hts := atoms_spec (ws := wx_lrow) B.pre
  have ho : s.vm.findClass RL = some m.cls := findClass_of_methodNamed B.named
  have hC : CallFix p m c cL_row 4 s #[.ref (ad 0), .int p0, .ref o] wx_lrow RL := ⟨B.exec, B.bytes, hml, ho, hts⟩
  have hx := B.exec
  have hb := B.bytes
  have hW : Wd D cy (va_A (wC ad cy S ++ ([(o, .inl (cy 1, 1, .inr (.inl v)))] ++ X)) s.heap.size) s (wC ad cy S ++ ([(o, .inl (cy 1, 1, .inr (.inl v)))] ++ X)) s.heap [] := ⟨hK, hP, hD0.self, va_S.rf, fun q h => Or.inr h, hN⟩
  refine lv_aload_n hx hb dL_row_0 rfl (lv_at hl 2 rfl) ?_
  refine lv_iconst (v := 0) hx hb dL_row_1 (by decide) ?_
  refine lv_aload_n hx hb dL_row_2 rfl (lv_at hl 0 rfl) ?_
  refine lv_iload_n hx hb dL_row_3 rfl (lv_at hl 1 rfl) ?_
  have hG : GoodIn wx_lrow (wsV RL 7 RX8 yX8_row (wu yX8_row cX8_row 2 (some .long))) := fun w hw => by
    have hm : w ∈ wsL_law0 := by
      rcases List.mem_append.mp hw with hw | hw
      · simp only [List.mem_cons, List.not_mem_nil, or_false] at hw
        rcases hw with rfl | rfl | rfl | rfl
        · exact w_51_10
        · exact w_51_11
        · exact w_51_12
        · exact w_1_2
      · rcases List.mem_cons.mp hw with rfl | hw
        · exact w_51_13
        · exact hw
    exact ⟨List.mem_cons_of_mem _ (in_law hm), gu_1 hm⟩
  refine wd_callV1 (As := [.int p0]) hC hW 0 wC_c0 rfl (c_X8_rowN l D cy ad _ S p0 r h) (cwV 1 hts hG rfl rfl rfl (by decide +kernel) ⟨Nat.le_of_ble_eq_true rfl, Nat.le_of_ble_eq_true rfl⟩) rfl hl.1 rfl (Nat.le_of_ble_eq_true rfl) ⟨Nat.zero_le _, Nat.zero_le _⟩ dL_row_4 (fun H locs hW => ?_)
  refine wd_last hC hW 59 rfl (vp_in_iff.mpr ⟨by decide, by decide⟩) (w' := wC ad cy r.2 ++ ([(o, .inl (cy 1, 1, .inr (.inl (vp_updL v 0 r.1))))] ++ X)) rfl dL_row_7 (fun H locs hW => ?_)
  refine lv_goto (tgt := 14) hx hb dL_row_8 (by decide) ?_
  refine lv_iconst (v := 0) hx hb dL_row_14 (by decide) ?_
  exact wd_iret rfl rfl hC B.returns B.notSynchronized hW dL_row_15
set_option maxHeartbeats 4000000 in
set_option maxRecDepth 100000 in
/-- the law's row, beyond the numbers -/
theorem c_L_row_out (l : Launch) (htr : l.stackTraces = false) (D : va_G) (cy : Nat → ClassId) (ad : Nat → Nat) (X : va_W) (S : St) (p0 : Int32) (o : Nat) (hout : p0 < 0 ∨ S.1 0 ≤ p0 ∨ 9 ≤ p0) (sz : Nat) : Met l yL_row wx_lrow (RMa 7 1 6) (va_Pc [.ref (ad 0), .int p0, .ref o] (CPx D cy (wC ad cy S ++ X) sz)) (CQa D cy (wC ad cy S ++ X) (fun r w' => r = some (.int 1) ∧ w' = wC ad cy S ++ X) sz) 1 6 (va_A (wC ad cy S ++ X) sz) := by
  refine va_MetW (cc := cL_row) (maxL := 4) (ret := some .int) (by decide) rfl ?_
  intro p e s m args below meth c s₁ B hml hv
  obtain ⟨rfl, ⟨hsz, hP, hK, hD0, hN⟩, hE, hZ⟩ := hv
  subst hsz
  have hl := lv_entry [.ref (ad 0), .int p0, .ref o] (n := 4) (Nat.le_of_ble_eq_true rfl)
  rw [lg_entry_eq]
  generalize (lg_sl ([.ref (ad 0), .int p0, .ref o]) ++ List.replicate (4 - (lg_sl ([.ref (ad 0), .int p0, .ref o])).length) Slot.unset).toArray = ls at hl ⊢
  have hl : lv_has ls 4 [(0, .ref (ad 0)), (1, .int p0), (2, .ref o)] := hl
  have hts := atoms_spec (ws := wx_lrow) B.pre
  have ho : s.vm.findClass RL = some m.cls := findClass_of_methodNamed B.named
  have hC : CallFix p m c cL_row 4 s #[.ref (ad 0), .int p0, .ref o] wx_lrow RL := ⟨B.exec, B.bytes, hml, ho, hts⟩
  have hx := B.exec
  have hb := B.bytes
  have htab : c.exceptionTable.toList = tableOf [(0, 8, 11, 13)] := vx_table (x := yL_row) B (hts _ List.mem_cons_self)
  have hW : Wd D cy (va_A (wC ad cy S ++ X) s.heap.size) s (wC ad cy S ++ X) s.heap [] := ⟨hK, hP, hD0.self, va_S.rf, fun q h => Or.inr h, hN⟩
  refine lv_aload_n hx hb dL_row_0 rfl (lv_at hl 2 rfl) ?_
  refine lv_iconst (v := 0) hx hb dL_row_1 (by decide) ?_
  refine lv_aload_n hx hb dL_row_2 rfl (lv_at hl 0 rfl) ?_
  refine lv_iload_n hx hb dL_row_3 rfl (lv_at hl 1 rfl) ?_
  have hG : GoodIn wx_lrow (wsV RL 7 RX8 yX8_row wx_row) := fun w hw => by
    have hm : w ∈ wsL_law := by
      rcases List.mem_append.mp hw with hw | hw
      · simp only [List.mem_cons, List.not_mem_nil, or_false] at hw
        rcases hw with rfl | rfl | rfl | rfl
        · exact in_law w_51_10
        · exact in_law w_51_11
        · exact in_law w_51_12
        · exact in_law w_1_2
      · rcases List.mem_cons.mp hw with rfl | hw
        · exact in_law w_51_13
        · exact hw
    exact ⟨List.mem_cons_of_mem _ hm, gl_1 hm⟩
  have hcast : (Cond.castable NSE NSE).before #[.ref (ad 0), .int p0, .ref o] s = true := va_Nw.use rfl hE.2
  refine vx_calll (vx_runV (As := [.int p0]) (rest := [.int 0, .ref o]) hC (c_X8_row_x l htr D cy ad X S p0 hout s.heap.size) (cwV 1 hts hG rfl rfl rfl (by decide +kernel) ⟨Nat.le_of_ble_eq_true rfl, Nat.le_of_ble_eq_true rfl⟩) ⟨CPx.blind, va_recv hW.1 hW.2.1 (ci := 8) (q0 := 0) rfl wC_c0, fun U hU hw => ⟨rfl, (wd_pre hW [.ref (ad 0), .int p0] U hU hw).2, hE.warm hw, by rw [hU]; exact hZ.moved hw.alike⟩⟩ rfl rfl hl.1 rfl (lv_room (Nat.le_of_ble_eq_true rfl)) dL_row_4 ⟨Nat.le_of_ble_eq_true rfl, Nat.le_of_ble_eq_true rfl⟩) hW.2.2.2.1 (fun q _ h => h) (fun q h => h) (fun q _ h => h) (fun E ce q9 u t H1 locs1 ht hvm _ hB hz1 hk1 hS1 hce hcv hcl => ?_) (fun r u t H1 locs1 ht hvm hp _ _ _ _ => hp.elim)
  obtain ⟨rfl, hP1, hK1⟩ := hB
  refine vx_catch (name := NSE) ho [] ⟨0, 8, 11, 13⟩ [] htab (fun z hz => nomatch hz) rfl (by decide) (hts _ (List.mem_cons_of_mem _ (in_law w_51_9))) hcast hce hcv hcl ?_
  have hW1 : Wd D cy (va_A (wC ad cy S ++ X) s.heap.size) s (wC ad cy S ++ X) H1 locs1 := ⟨hK, by rw [← ht]; exact hP1, hD0.self, hS1, fun q h => Or.inr h, hN⟩
  refine lv_astore_n (lv' := [(3, .ref q9), (0, .ref (ad 0)), (1, .int p0), (2, .ref o)]) hx hb dL_row_11 rfl hl (by decide) rfl (fun ls hl => ?_)
  refine lv_iconst (v := 1) hx hb dL_row_12 (by decide) ?_
  exact wa_iret rfl rfl hC B.returns B.notSynchronized hW1 ⟨rfl, rfl⟩ (Nat.le_of_ble_eq_true rfl) (Nat.le_of_ble_eq_true rfl) dL_row_13
