/-! THE CLAIM OUT OF ONE WALK OF THE LAW'S BODY. Your part is whole_start (and what it stands on); all else here is the same for every law, but numbers. -/
def R_law : String := "NextLoadLaw"
def lw_P (b : Addr) (xs : List Int32) (args : Array Value) (s : State) : Prop := args = #[.ref b] ∧ s.IntsAt b xs ∧ xs.length ≤ 2560 ∧ (Jvm.Cond.and given_1 narrow_1).before args s = true
def lw_Q (_ : Array Value) (s : State) (o : Outcome) (t : State) : Prop := o = .returned (some (.int 1)) ∧ Framed s o t [] 601024 7293034
def lw_Z (below : List Frame) (a : Array Value) (s : State) : State → Prop := fun t => ∃ o, t.status = .running ∧ Ended t below o ∧ lw_Q a s o t
/-- the law's own end, with 1 on the stack, nothing written that was there before, its room as the claim has it -/
theorem lw_ret {p : Program} {l : Launch} {e : Env} {s : State} {m : MethodId} {below : List Frame} {meth : Method} {c : Code} {b : Nat} (hx : p.tables.exec = Jvm.exec) (hb : c.code = code) (hr : meth.sig.returnType = ret) (hlocks : meth.locks = false) {pc : Nat} {H : Heap} {ls : Array Slot} (hdg : decode code pc = .ok (.ireturn, 1)) : W p l e room_1 s m #[Value.ref b] below meth c H [] 601024 7293034 (lw_Z below #[Value.ref b] s) (F0 m pc ls [.int 1]) := by
  intro T hT X
  obtain ⟨fs, hret, hrun, hended, hW, hframe⟩ := X.leave (v := some (.int 1)) (hlocks := hlocks) (fun h => by rw [hr] at h; cases h)
  have hmeth' : T.vm.method? m = some meth := X.method'
  refine ⟨T.setFrames fs, ?_, .returned (some (.int 1)), hrun, hended, rfl, ⟨_, rfl⟩, hW, hframe⟩
  jvm_step X.here [X.here.top, hx, hb, hdg, hmeth', hr, ret, narrow_b1]
  (try refine ⟨rfl, ?_⟩); (try refine ⟨rfl, ?_⟩)
  first | (intro acts; rw [hret _ acts rfl rfl rfl]) | rw [hret _ _ rfl rfl rfl]
  exact Steps.refl _
/-- what holds at the law's entry: the machine, the code, the tables' words (any of lw_tbl by 'hts w (by decide +kernel)'), the script of L ints xs at the cell b, what the Statement gives of the start (any of its parts by flat_of_before) -/
def lw_At (p : Program) (s : State) (m : MethodId) (meth : Method) (c : Code) (b L : Nat) (xs : Nat → Int32) : Prop :=
  p.tables.exec = Jvm.exec ∧ c.code = code ∧ meth.sig.returnType = ret ∧ c.maxLocals = 8 ∧ s.vm.findClass R_law = some m.cls ∧ (∀ w ∈ lw_tbl, w.before #[Value.ref b] s = true) ∧ va_X b L xs s s.heap ∧ b < s.heap.size ∧ meth.locks = false ∧ (Jvm.Cond.and given_1 narrow_1).before #[Value.ref b] s = true
def HBall (n : Nat) (Rel : St → Option St → Option St → St → Prop) : Prop := HB_0 n Rel ∧ HB_1 n Rel ∧ HB_2 n Rel ∧ HB_3 n Rel ∧ HB_4 n Rel ∧ HB_5 n Rel ∧ HB_6 n Rel ∧ HB_7 n Rel ∧ HB_8 n Rel ∧ HB_9 n Rel ∧ HB_10 n Rel ∧ HB_11 n Rel ∧ HB_12 n Rel ∧ HB_13 n Rel ∧ HB_14 n Rel ∧ HB_15 n Rel ∧ HB_16 n Rel ∧ HB_17 n Rel ∧ HB_18 n Rel ∧ HB_19 n Rel ∧ HB_20 n Rel ∧ HB_21 n Rel ∧ HB_22 n Rel ∧ HB_23 n Rel ∧ HB_24 n Rel ∧ HB_25 n Rel ∧ HB_26 n Rel ∧ HB_27 n Rel ∧ HB_28 n Rel ∧ HB_29 n Rel ∧ HB_30 n Rel ∧ HB_31 n Rel ∧ HB_32 n Rel ∧ HB_33 n Rel ∧ HB_34 n Rel ∧ HB_35 n Rel
set_option maxHeartbeats 8000000 in
set_option maxRecDepth 100000 in
/-- the law's loop: at its head, with i calls done -/
theorem law_loop {p : Program} {l : Launch} {e : Env} {s : State} {m : MethodId} {below : List Frame} {meth : Method} {c : Code} {b L : Nat} {xs : Nat → Int32} {D : va_G} {cy : Nat → ClassId} {n : Nat} {Rel : St → Option St → Option St → St → Prop} {br : Nat → Nat} {o : Nat} (htr : l.stackTraces = false) (hr : meth.sig.returnType = ret) (hlocks : meth.locks = false) (hX : LX p s m c b L xs) (hL : L ≤ 2560) (HB : HBall n Rel) :
    ∀ (k i : Nat) (x4 : Int32) (ad : Nat → Nat) (S : St) (oF oP : Option St) (T : St) (v : Nat → Int64) (H : Heap) (locs : List Loc) (ls : Array Slot), i + k = 513 → x4 = nI (5 * i) → Rel S oF oP T → Wd D cy (fun q => s.heap.size ≤ q) s (WLw ad br cy o S oF oP T v) H locs → lv_has ls 8 [(0, .ref b), (1, .ref (ad 0)), (2, .ref (br 0)), (3, .ref o), (4, .int x4)] → W p l e room_1 s m #[Value.ref b] below meth c H locs (kc oF oP i) (ks oF oP i) (lw_Z below #[Value.ref b] s) (F0 m 23 ls []) := by
  obtain ⟨hC, hXs, hbl, hE, hZ⟩ := id hX
  have hx := hC.1
  have hb := hC.2.1
  have hbA : ¬ (fun q : Nat => s.heap.size ≤ q) b := Nat.not_le.mpr hbl
  have hend : ∀ (oF oP : Option St) (i : Nat) (H : Heap) (locs : List Loc) (ls : Array Slot), i ≤ 513 → va_S (fun q : Nat => s.heap.size ≤ q) s.heap H locs → W p l e room_1 s m #[Value.ref b] below meth c H locs (kc oF oP i) (ks oF oP i) (lw_Z below #[Value.ref b] s) (F0 m 1428 ls []) := by
    intro oF oP i H locs ls hi hS
    refine lv_iconst (v := 1) hx hb dL_law_1428 (by decide) ?_
    refine va_forget (fun q hq => hS.2.2 q hq) ?_
    refine W.widen (k := 601024) (n := 7293034) (by unfold kc; split <;> split <;> omega) (by unfold ks; split <;> split <;> omega) ?_
    exact lw_ret hx hb hr hlocks dL_law_1429
  intro k
  induction k with
  | zero =>
    intro i x4 ad S oF oP T v H locs ls hik ex4 hRel hW hl
    have hi : i = 513 := by omega
    subst hi
    refine lv_iload hx hb dL_law_23 (lv_at hl 4 rfl) ?_
    refine lv_aload_n hx hb dL_law_25 rfl (lv_at hl 0 rfl) ?_
    refine va_slen hx hb hXs hbl hbA hW.2.2.2.1 dL_law_26 ?_
    refine lv_iconst (v := 5) hx hb dL_law_27 (by decide) ?_
    refine lv_isub hx hb dL_law_28 ?_
    refine lv_icmp_gt (tgt := 1428) hx hb dL_law_29 (by decide) (fun c9 => hend oF oP _ _ _ _ (by omega) hW.2.2.2.1) (fun c9 => absurd ?_ c9)
    rw [ex4, Int32.lt_iff_toInt_lt, show (5 : Int32) = nI 5 from rfl, show Int32.ofNat L = nI L from rfl, pk_sub_toInt (by omega) (by omega), nI_toInt (by omega)]
    omega
  | succ k ih =>
    intro i x4 ad S oF oP T v H locs ls hik ex4 hRel hW hl
    refine lv_iload hx hb dL_law_23 (lv_at hl 4 rfl) ?_
    refine lv_aload_n hx hb dL_law_25 rfl (lv_at hl 0 rfl) ?_
    refine va_slen hx hb hXs hbl hbA hW.2.2.2.1 dL_law_26 ?_
    refine lv_iconst (v := 5) hx hb dL_law_27 (by decide) ?_
    refine lv_isub hx hb dL_law_28 ?_
    refine lv_icmp_gt (tgt := 1428) hx hb dL_law_29 (by decide) (fun c9 => hend oF oP _ _ _ _ (by omega) hW.2.2.2.1) (fun c9 => ?_)
    have h5 : 5 * i + 5 ≤ L := by
      rw [ex4, Int32.lt_iff_toInt_lt, show (5 : Int32) = nI 5 from rfl, show Int32.ofNat L = nI L from rfl, pk_sub_toInt (by omega) (by omega), nI_toInt (by omega)] at c9
      omega
    have hin : ∀ j : Nat, j < 5 → vp_in (x4 + nI j) L := fun j hj => by
      rw [ex4, nI_add]
      exact vp_in_nI (by omega) (by omega)
    have h0 : vp_in x4 L := by rw [ex4]; exact vp_in_nI (by omega) (by omega)
    have K : LK p l e s m below meth c b D cy (lw_Z below #[Value.ref b] s) Rel br o i x4 := by
      intro ad S oF oP T v H locs ls hW hl hRel
      refine lv_iinc (v := nI (5 * (i + 1))) (lv' := [(4, .int (nI (5 * (i + 1)))), (0, .ref b), (1, .ref (ad 0)), (2, .ref (br 0)), (3, .ref o)]) hx hb dL_law_1422 hl (k := 4) rfl (by rw [ex4]; exact (nI_add (5 * i) 5).trans (congrArg nI (by omega))) (by decide) rfl (fun ls hl => ?_)
      refine lv_goto (tgt := 23) hx hb dL_law_1425 (by decide) ?_
      exact ih (i + 1) _ ad S oF oP T v _ _ _ (by omega) rfl hRel hW (lv_sub hl [1, 2, 3, 4, 0] rfl)
    refine lv_aload_n hx hb dL_law_32 rfl (lv_at hl 0 rfl) ?_
    refine lv_iload hx hb dL_law_33 (lv_at hl 4 rfl) ?_
    refine va_sld hx hb hXs hbl hbA hW.2.2.2.1 h0 dL_law_35 ?_
    refine lv_bipush (v := 63) hx hb dL_law_36 (by decide) ?_
    refine lv_iand hx hb dL_law_38 ?_
    refine lv_topi (fun z ez => ?_)
    by_cases c0 : z = 0
    · refine lv_tableIn (tgt := 196) hx hb dL_law_39 (by rw [c0]; decide) (by rw [c0]; decide) (by rw [c0]; rfl) (by decide) ?_
      exact law_0 htr hX (HB.1) (by omega) (hin 1 (by omega)) (hin 2 (by omega)) (hin 3 (by omega)) (hin 4 (by omega)) K hRel hW hl
    by_cases c1 : z = 1
    · refine lv_tableIn (tgt := 221) hx hb dL_law_39 (by rw [c1]; decide) (by rw [c1]; decide) (by rw [c1]; rfl) (by decide) ?_
      exact law_1 htr hX (HB.2.1) (by omega) (hin 1 (by omega)) (hin 2 (by omega)) (hin 3 (by omega)) (hin 4 (by omega)) K hRel hW hl
    by_cases c2 : z = 2
    · refine lv_tableIn (tgt := 246) hx hb dL_law_39 (by rw [c2]; decide) (by rw [c2]; decide) (by rw [c2]; rfl) (by decide) ?_
      exact law_2 htr hX (HB.2.2.1) (by omega) (hin 1 (by omega)) (hin 2 (by omega)) (hin 3 (by omega)) (hin 4 (by omega)) K hRel hW hl
    by_cases c3 : z = 3
    · refine lv_tableIn (tgt := 259) hx hb dL_law_39 (by rw [c3]; decide) (by rw [c3]; decide) (by rw [c3]; rfl) (by decide) ?_
      exact law_3 htr hX (HB.2.2.2.1) (by omega) (hin 1 (by omega)) (hin 2 (by omega)) (hin 3 (by omega)) (hin 4 (by omega)) K hRel hW hl
    by_cases c4 : z = 4
    · refine lv_tableIn (tgt := 272) hx hb dL_law_39 (by rw [c4]; decide) (by rw [c4]; decide) (by rw [c4]; rfl) (by decide) ?_
      exact law_4 htr hX (HB.2.2.2.2.1) (by omega) (hin 1 (by omega)) (hin 2 (by omega)) (hin 3 (by omega)) (hin 4 (by omega)) K hRel hW hl
    by_cases c5 : z = 5
    · refine lv_tableIn (tgt := 333) hx hb dL_law_39 (by rw [c5]; decide) (by rw [c5]; decide) (by rw [c5]; rfl) (by decide) ?_
      exact law_5 htr hX (HB.2.2.2.2.2.1) (by omega) (hin 1 (by omega)) (hin 2 (by omega)) (hin 3 (by omega)) (hin 4 (by omega)) K hRel hW hl
    by_cases c6 : z = 6
    · refine lv_tableIn (tgt := 358) hx hb dL_law_39 (by rw [c6]; decide) (by rw [c6]; decide) (by rw [c6]; rfl) (by decide) ?_
      exact law_6 htr hX (HB.2.2.2.2.2.2.1) (by omega) (hin 1 (by omega)) (hin 2 (by omega)) (hin 3 (by omega)) (hin 4 (by omega)) K hRel hW hl
    by_cases c7 : z = 7
    · refine lv_tableIn (tgt := 371) hx hb dL_law_39 (by rw [c7]; decide) (by rw [c7]; decide) (by rw [c7]; rfl) (by decide) ?_
      exact law_7 htr hX (HB.2.2.2.2.2.2.2.1) (by omega) (hin 1 (by omega)) (hin 2 (by omega)) (hin 3 (by omega)) (hin 4 (by omega)) K hRel hW hl
    by_cases c8 : z = 8
    · refine lv_tableIn (tgt := 432) hx hb dL_law_39 (by rw [c8]; decide) (by rw [c8]; decide) (by rw [c8]; rfl) (by decide) ?_
      exact law_8 htr hX (HB.2.2.2.2.2.2.2.2.1) (by omega) (hin 1 (by omega)) (hin 2 (by omega)) (hin 3 (by omega)) (hin 4 (by omega)) K hRel hW hl
    by_cases c9 : z = 9
    · refine lv_tableIn (tgt := 481) hx hb dL_law_39 (by rw [c9]; decide) (by rw [c9]; decide) (by rw [c9]; rfl) (by decide) ?_
      exact law_9 htr hX (HB.2.2.2.2.2.2.2.2.2.1) (by omega) (hin 1 (by omega)) (hin 2 (by omega)) (hin 3 (by omega)) (hin 4 (by omega)) K hRel hW hl
    by_cases c10 : z = 10
    · refine lv_tableIn (tgt := 494) hx hb dL_law_39 (by rw [c10]; decide) (by rw [c10]; decide) (by rw [c10]; rfl) (by decide) ?_
      exact law_10 htr hX (HB.2.2.2.2.2.2.2.2.2.2.1) (by omega) (hin 1 (by omega)) (hin 2 (by omega)) (hin 3 (by omega)) (hin 4 (by omega)) K hRel hW hl
    by_cases c11 : z = 11
    · refine lv_tableIn (tgt := 507) hx hb dL_law_39 (by rw [c11]; decide) (by rw [c11]; decide) (by rw [c11]; rfl) (by decide) ?_
      exact law_11 htr hX (HB.2.2.2.2.2.2.2.2.2.2.2.1) (by omega) (hin 1 (by omega)) (hin 2 (by omega)) (hin 3 (by omega)) (hin 4 (by omega)) K hRel hW hl
    by_cases c12 : z = 12
    · refine lv_tableIn (tgt := 544) hx hb dL_law_39 (by rw [c12]; decide) (by rw [c12]; decide) (by rw [c12]; rfl) (by decide) ?_
      exact law_12 htr hX (HB.2.2.2.2.2.2.2.2.2.2.2.2.1) (by omega) (hin 1 (by omega)) (hin 2 (by omega)) (hin 3 (by omega)) (hin 4 (by omega)) K hRel hW hl
    by_cases c13 : z = 13
    · refine lv_tableIn (tgt := 585) hx hb dL_law_39 (by rw [c13]; decide) (by rw [c13]; decide) (by rw [c13]; rfl) (by decide) ?_
      exact law_13 htr hX (HB.2.2.2.2.2.2.2.2.2.2.2.2.2.1) (by omega) (hin 1 (by omega)) (hin 2 (by omega)) (hin 3 (by omega)) (hin 4 (by omega)) K hRel hW hl
    by_cases c14 : z = 14
    · refine lv_tableIn (tgt := 622) hx hb dL_law_39 (by rw [c14]; decide) (by rw [c14]; decide) (by rw [c14]; rfl) (by decide) ?_
      exact law_14 htr hX (HB.2.2.2.2.2.2.2.2.2.2.2.2.2.2.1) (by omega) (hin 1 (by omega)) (hin 2 (by omega)) (hin 3 (by omega)) (hin 4 (by omega)) K hRel hW hl
    by_cases c15 : z = 15
    · refine lv_tableIn (tgt := 647) hx hb dL_law_39 (by rw [c15]; decide) (by rw [c15]; decide) (by rw [c15]; rfl) (by decide) ?_
      exact law_15 htr hX (HB.2.2.2.2.2.2.2.2.2.2.2.2.2.2.2.1) (by omega) (hin 1 (by omega)) (hin 2 (by omega)) (hin 3 (by omega)) (hin 4 (by omega)) K hRel hW hl
    by_cases c16 : z = 16
    · refine lv_tableIn (tgt := 684) hx hb dL_law_39 (by rw [c16]; decide) (by rw [c16]; decide) (by rw [c16]; rfl) (by decide) ?_
      exact law_16 htr hX (HB.2.2.2.2.2.2.2.2.2.2.2.2.2.2.2.2.1) (by omega) (hin 1 (by omega)) (hin 2 (by omega)) (hin 3 (by omega)) (hin 4 (by omega)) K hRel hW hl
    by_cases c17 : z = 17
    · refine lv_tableIn (tgt := 721) hx hb dL_law_39 (by rw [c17]; decide) (by rw [c17]; decide) (by rw [c17]; rfl) (by decide) ?_
      exact law_17 htr hX (HB.2.2.2.2.2.2.2.2.2.2.2.2.2.2.2.2.2.1) (by omega) (hin 1 (by omega)) (hin 2 (by omega)) (hin 3 (by omega)) (hin 4 (by omega)) K hRel hW hl
    by_cases c18 : z = 18
    · refine lv_tableIn (tgt := 746) hx hb dL_law_39 (by rw [c18]; decide) (by rw [c18]; decide) (by rw [c18]; rfl) (by decide) ?_
      exact law_18 htr hX (HB.2.2.2.2.2.2.2.2.2.2.2.2.2.2.2.2.2.2.1) (by omega) (hin 1 (by omega)) (hin 2 (by omega)) (hin 3 (by omega)) (hin 4 (by omega)) K hRel hW hl
    by_cases c19 : z = 19
    · refine lv_tableIn (tgt := 783) hx hb dL_law_39 (by rw [c19]; decide) (by rw [c19]; decide) (by rw [c19]; rfl) (by decide) ?_
      exact law_19 htr hX (HB.2.2.2.2.2.2.2.2.2.2.2.2.2.2.2.2.2.2.2.1) (by omega) (hin 1 (by omega)) (hin 2 (by omega)) (hin 3 (by omega)) (hin 4 (by omega)) K hRel hW hl
    by_cases c20 : z = 20
    · refine lv_tableIn (tgt := 808) hx hb dL_law_39 (by rw [c20]; decide) (by rw [c20]; decide) (by rw [c20]; rfl) (by decide) ?_
      exact law_20 htr hX (HB.2.2.2.2.2.2.2.2.2.2.2.2.2.2.2.2.2.2.2.2.1) (by omega) (hin 1 (by omega)) (hin 2 (by omega)) (hin 3 (by omega)) (hin 4 (by omega)) K hRel hW hl
    by_cases c21 : z = 21
    · refine lv_tableIn (tgt := 845) hx hb dL_law_39 (by rw [c21]; decide) (by rw [c21]; decide) (by rw [c21]; rfl) (by decide) ?_
      exact law_21 htr hX (HB.2.2.2.2.2.2.2.2.2.2.2.2.2.2.2.2.2.2.2.2.2.1) (by omega) (hin 1 (by omega)) (hin 2 (by omega)) (hin 3 (by omega)) (hin 4 (by omega)) K hRel hW hl
    by_cases c22 : z = 22
    · refine lv_tableIn (tgt := 870) hx hb dL_law_39 (by rw [c22]; decide) (by rw [c22]; decide) (by rw [c22]; rfl) (by decide) ?_
      exact law_22 htr hX (HB.2.2.2.2.2.2.2.2.2.2.2.2.2.2.2.2.2.2.2.2.2.2.1) (by omega) (hin 1 (by omega)) (hin 2 (by omega)) (hin 3 (by omega)) (hin 4 (by omega)) K hRel hW hl
    by_cases c23 : z = 23
    · refine lv_tableIn (tgt := 895) hx hb dL_law_39 (by rw [c23]; decide) (by rw [c23]; decide) (by rw [c23]; rfl) (by decide) ?_
      exact law_23 htr hX (HB.2.2.2.2.2.2.2.2.2.2.2.2.2.2.2.2.2.2.2.2.2.2.2.1) (by omega) (hin 1 (by omega)) (hin 2 (by omega)) (hin 3 (by omega)) (hin 4 (by omega)) K hRel hW hl
    by_cases c24 : z = 24
    · refine lv_tableIn (tgt := 944) hx hb dL_law_39 (by rw [c24]; decide) (by rw [c24]; decide) (by rw [c24]; rfl) (by decide) ?_
      exact law_24 htr hX (HB.2.2.2.2.2.2.2.2.2.2.2.2.2.2.2.2.2.2.2.2.2.2.2.2.1) (by omega) (hin 1 (by omega)) (hin 2 (by omega)) (hin 3 (by omega)) (hin 4 (by omega)) K hRel hW hl
    by_cases c25 : z = 25
    · refine lv_tableIn (tgt := 969) hx hb dL_law_39 (by rw [c25]; decide) (by rw [c25]; decide) (by rw [c25]; rfl) (by decide) ?_
      exact law_25 htr hX (HB.2.2.2.2.2.2.2.2.2.2.2.2.2.2.2.2.2.2.2.2.2.2.2.2.2.1) (by omega) (hin 1 (by omega)) (hin 2 (by omega)) (hin 3 (by omega)) (hin 4 (by omega)) K hRel hW hl
    by_cases c26 : z = 26
    · refine lv_tableIn (tgt := 1006) hx hb dL_law_39 (by rw [c26]; decide) (by rw [c26]; decide) (by rw [c26]; rfl) (by decide) ?_
      exact law_26 htr hX (HB.2.2.2.2.2.2.2.2.2.2.2.2.2.2.2.2.2.2.2.2.2.2.2.2.2.2.1) (by omega) (hin 1 (by omega)) (hin 2 (by omega)) (hin 3 (by omega)) (hin 4 (by omega)) K hRel hW hl
    by_cases c27 : z = 27
    · refine lv_tableIn (tgt := 1043) hx hb dL_law_39 (by rw [c27]; decide) (by rw [c27]; decide) (by rw [c27]; rfl) (by decide) ?_
      exact law_27 htr hX (HB.2.2.2.2.2.2.2.2.2.2.2.2.2.2.2.2.2.2.2.2.2.2.2.2.2.2.2.1) (by omega) (hin 1 (by omega)) (hin 2 (by omega)) (hin 3 (by omega)) (hin 4 (by omega)) K hRel hW hl
    by_cases c28 : z = 28
    · refine lv_tableIn (tgt := 1080) hx hb dL_law_39 (by rw [c28]; decide) (by rw [c28]; decide) (by rw [c28]; rfl) (by decide) ?_
      exact law_28 htr hX (HB.2.2.2.2.2.2.2.2.2.2.2.2.2.2.2.2.2.2.2.2.2.2.2.2.2.2.2.2.1) (by omega) (hin 1 (by omega)) (hin 2 (by omega)) (hin 3 (by omega)) (hin 4 (by omega)) K hRel hW hl
    by_cases c29 : z = 29
    · refine lv_tableIn (tgt := 1105) hx hb dL_law_39 (by rw [c29]; decide) (by rw [c29]; decide) (by rw [c29]; rfl) (by decide) ?_
      exact law_29 htr hX (HB.2.2.2.2.2.2.2.2.2.2.2.2.2.2.2.2.2.2.2.2.2.2.2.2.2.2.2.2.2.1) (by omega) (hin 1 (by omega)) (hin 2 (by omega)) (hin 3 (by omega)) (hin 4 (by omega)) K hRel hW hl
    by_cases c30 : z = 30
    · refine lv_tableIn (tgt := 1170) hx hb dL_law_39 (by rw [c30]; decide) (by rw [c30]; decide) (by rw [c30]; rfl) (by decide) ?_
      exact law_30 htr hX (HB.2.2.2.2.2.2.2.2.2.2.2.2.2.2.2.2.2.2.2.2.2.2.2.2.2.2.2.2.2.2.1) (by omega) (hin 1 (by omega)) (hin 2 (by omega)) (hin 3 (by omega)) (hin 4 (by omega)) K hRel hW hl
    by_cases c31 : z = 31
    · refine lv_tableIn (tgt := 1207) hx hb dL_law_39 (by rw [c31]; decide) (by rw [c31]; decide) (by rw [c31]; rfl) (by decide) ?_
      exact law_31 htr hX (HB.2.2.2.2.2.2.2.2.2.2.2.2.2.2.2.2.2.2.2.2.2.2.2.2.2.2.2.2.2.2.2.1) (by omega) (hin 1 (by omega)) (hin 2 (by omega)) (hin 3 (by omega)) (hin 4 (by omega)) K hRel hW hl
    by_cases c32 : z = 32
    · refine lv_tableIn (tgt := 1268) hx hb dL_law_39 (by rw [c32]; decide) (by rw [c32]; decide) (by rw [c32]; rfl) (by decide) ?_
      exact law_32 htr hX (HB.2.2.2.2.2.2.2.2.2.2.2.2.2.2.2.2.2.2.2.2.2.2.2.2.2.2.2.2.2.2.2.2.1) (by omega) (hin 1 (by omega)) (hin 2 (by omega)) (hin 3 (by omega)) (hin 4 (by omega)) K hRel hW hl
    by_cases c33 : z = 33
    · refine lv_tableIn (tgt := 1293) hx hb dL_law_39 (by rw [c33]; decide) (by rw [c33]; decide) (by rw [c33]; rfl) (by decide) ?_
      exact law_33 htr hX (HB.2.2.2.2.2.2.2.2.2.2.2.2.2.2.2.2.2.2.2.2.2.2.2.2.2.2.2.2.2.2.2.2.2.1) (by omega) (hin 1 (by omega)) (hin 2 (by omega)) (hin 3 (by omega)) (hin 4 (by omega)) K hRel hW hl
    by_cases c34 : z = 34
    · refine lv_tableIn (tgt := 1342) hx hb dL_law_39 (by rw [c34]; decide) (by rw [c34]; decide) (by rw [c34]; rfl) (by decide) ?_
      exact law_34 htr hX (HB.2.2.2.2.2.2.2.2.2.2.2.2.2.2.2.2.2.2.2.2.2.2.2.2.2.2.2.2.2.2.2.2.2.2.1) (by omega) (hin 1 (by omega)) (hin 2 (by omega)) (hin 3 (by omega)) (hin 4 (by omega)) K hRel hW hl
    by_cases c35 : z = 35
    · refine lv_tableIn (tgt := 1367) hx hb dL_law_39 (by rw [c35]; decide) (by rw [c35]; decide) (by rw [c35]; rfl) (by decide) ?_
      exact law_35 htr hX (HB.2.2.2.2.2.2.2.2.2.2.2.2.2.2.2.2.2.2.2.2.2.2.2.2.2.2.2.2.2.2.2.2.2.2.2) (by omega) (hin 1 (by omega)) K hRel hW hl
    have hsw : z.toInt < 0 ∨ 35 < z.toInt := by
      have : ¬ z.toInt = 0 := lv_neT c0 rfl
      have : ¬ z.toInt = 1 := lv_neT c1 rfl
      have : ¬ z.toInt = 2 := lv_neT c2 rfl
      have : ¬ z.toInt = 3 := lv_neT c3 rfl
      have : ¬ z.toInt = 4 := lv_neT c4 rfl
      have : ¬ z.toInt = 5 := lv_neT c5 rfl
      have : ¬ z.toInt = 6 := lv_neT c6 rfl
      have : ¬ z.toInt = 7 := lv_neT c7 rfl
      have : ¬ z.toInt = 8 := lv_neT c8 rfl
      have : ¬ z.toInt = 9 := lv_neT c9 rfl
      have : ¬ z.toInt = 10 := lv_neT c10 rfl
      have : ¬ z.toInt = 11 := lv_neT c11 rfl
      have : ¬ z.toInt = 12 := lv_neT c12 rfl
      have : ¬ z.toInt = 13 := lv_neT c13 rfl
      have : ¬ z.toInt = 14 := lv_neT c14 rfl
      have : ¬ z.toInt = 15 := lv_neT c15 rfl
      have : ¬ z.toInt = 16 := lv_neT c16 rfl
      have : ¬ z.toInt = 17 := lv_neT c17 rfl
      have : ¬ z.toInt = 18 := lv_neT c18 rfl
      have : ¬ z.toInt = 19 := lv_neT c19 rfl
      have : ¬ z.toInt = 20 := lv_neT c20 rfl
      have : ¬ z.toInt = 21 := lv_neT c21 rfl
      have : ¬ z.toInt = 22 := lv_neT c22 rfl
      have : ¬ z.toInt = 23 := lv_neT c23 rfl
      have : ¬ z.toInt = 24 := lv_neT c24 rfl
      have : ¬ z.toInt = 25 := lv_neT c25 rfl
      have : ¬ z.toInt = 26 := lv_neT c26 rfl
      have : ¬ z.toInt = 27 := lv_neT c27 rfl
      have : ¬ z.toInt = 28 := lv_neT c28 rfl
      have : ¬ z.toInt = 29 := lv_neT c29 rfl
      have : ¬ z.toInt = 30 := lv_neT c30 rfl
      have : ¬ z.toInt = 31 := lv_neT c31 rfl
      have : ¬ z.toInt = 32 := lv_neT c32 rfl
      have : ¬ z.toInt = 33 := lv_neT c33 rfl
      have : ¬ z.toInt = 34 := lv_neT c34 rfl
      have : ¬ z.toInt = 35 := lv_neT c35 rfl
      omega
    refine lv_tableOut (tgt := 1422) hx hb dL_law_39 hsw (by decide) ?_
    refine W.widen (k := kc oF oP (i + 1)) (n := ks oF oP (i + 1)) kc_s ks_s ?_
    exact K ad S oF oP T v _ _ _ hW hl hRel
