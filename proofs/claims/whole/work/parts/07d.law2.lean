set_option maxHeartbeats 4000000 in
set_option maxRecDepth 100000 in
theorem law_18 {p : Program} {l : Launch} {e : Env} {s : State} {m : MethodId} {below : List Frame} {meth : Method} {c : Code} {b L : Nat} {xs : Nat → Int32} {D : va_G} {cy : Nat → ClassId} {Q : State → Prop} {n : Nat} {Rel : St → Option St → Option St → St → Prop} {br : Nat → Nat} {o i : Nat} {x4 : Int32} (htr : l.stackTraces = false) (hX : LX p s m c b L xs) (HB : HB_18 n Rel) (hi : i ≤ 512) (h1 : vp_in (x4 + 1) L) (h2 : vp_in (x4 + 2) L) (h3 : vp_in (x4 + 3) L) (h4 : vp_in (x4 + 4) L) (K : LK p l e s m below meth c b D cy Q Rel br o i x4) {ad : Nat → Nat} {S : St} {oF oP : Option St} {T : St} {v : Nat → Int64} {H : Heap} {locs : List Loc} {ls : Array Slot} (hRel : Rel S oF oP T) (hW : Wd D cy (fun q => s.heap.size ≤ q) s (WLw ad br cy o S oF oP T v) H locs) (hl : lv_has ls 8 [(0, .ref b), (1, .ref (ad 0)), (2, .ref (br 0)), (3, .ref o), (4, .int x4)]) : W p l e room_1 s m #[Value.ref b] below meth c H locs (kc oF oP i) (ks oF oP i) Q (F0 m 746 ls []) := by
  obtain ⟨hC, hXs, hbl, hE, hZ⟩ := hX
  have hx := hC.1
  have hb := hC.2.1
  have hts := hC.2.2.2.2
  have hbA : ¬ (fun q : Nat => s.heap.size ≤ q) b := Nat.not_le.mpr hbl
  refine lv_aload_n hx hb dL_law_746 rfl (lv_at hl 1 rfl) ?_
  refine lv_aload_n hx hb dL_law_747 rfl (lv_at hl 0 rfl) ?_
  refine lv_iload hx hb dL_law_748 (lv_at hl 4 rfl) ?_
  refine lv_iconst (v := 1) hx hb dL_law_750 (by decide) ?_
  refine lv_iadd hx hb dL_law_751 ?_
  refine va_sld hx hb hXs hbl hbA hW.2.2.2.1 h1 dL_law_752 ?_
  refine lv_aload_n hx hb dL_law_753 rfl (lv_at hl 0 rfl) ?_
  refine lv_iload hx hb dL_law_754 (lv_at hl 4 rfl) ?_
  refine lv_iconst (v := 2) hx hb dL_law_756 (by decide) ?_
  refine lv_iadd hx hb dL_law_757 ?_
  refine va_sld hx hb hXs hbl hbA hW.2.2.2.1 h2 dL_law_758 ?_
  obtain ⟨r, S', T', hc, hrf, hrel⟩ := HB S oF oP T (xs (x4 + 1).toNatClampNeg) (xs (x4 + 2).toNatClampNeg) hRel
  refine wd_callV1 (As := [.int (xs (x4 + 1).toNatClampNeg), .int (xs (x4 + 2).toNatClampNeg)]) hC hW 0 wC_c0 rfl (c_X8_chance l D cy ad _ n S (xs (x4 + 1).toNatClampNeg) (xs (x4 + 2).toNatClampNeg) (r, S') hc) (cwV 2 hts (gl_V w_29_11 w_29_8 w_29_9 w_29_10 w_1_2) rfl rfl rfl (by decide +kernel) ⟨Nat.le_of_ble_eq_true rfl, Nat.le_of_ble_eq_true rfl⟩) rfl hl.1 rfl (Nat.le_of_ble_eq_true rfl) ⟨(show kc oF oP i ≤ 601024 by have := kc_le (oF := oF) (oP := oP) hi; omega), (show ks oF oP i ≤ 7293034 by have := ks_le (oF := oF) (oP := oP) hi; omega)⟩ dL_law_759 (fun H locs hW => ?_)
  have hW : Wd D cy (fun q => s.heap.size ≤ q) s (WLw ad br cy o S' oF oP T v) H locs := hW
  refine lv_aload_n hx hb dL_law_762 rfl (lv_at hl 2 rfl) ?_
  refine lv_aload_n hx hb dL_law_763 rfl (lv_at hl 0 rfl) ?_
  refine lv_iload hx hb dL_law_764 (lv_at hl 4 rfl) ?_
  refine lv_iconst (v := 1) hx hb dL_law_766 (by decide) ?_
  refine lv_iadd hx hb dL_law_767 ?_
  refine va_sld hx hb hXs hbl hbA hW.2.2.2.1 h1 dL_law_768 ?_
  refine lv_aload_n hx hb dL_law_769 rfl (lv_at hl 0 rfl) ?_
  refine lv_iload hx hb dL_law_770 (lv_at hl 4 rfl) ?_
  refine lv_iconst (v := 2) hx hb dL_law_772 (by decide) ?_
  refine lv_iadd hx hb dL_law_773 ?_
  refine va_sld hx hb hXs hbl hbA hW.2.2.2.1 h2 dL_law_774 ?_
  have hW := Wd.toR hW
  refine wd_callV1 (As := [.int (xs (x4 + 1).toNatClampNeg), .int (xs (x4 + 2).toNatClampNeg)]) hC hW 0 wR_c0 rfl (c_X9_chance l D cy br _ n T (xs (x4 + 1).toNatClampNeg) (xs (x4 + 2).toNatClampNeg) (r, T') hrf) (cwV 2 hts (gl_V w_29_23 w_29_20 w_29_21 w_29_22 w_1_5) rfl rfl rfl (by decide +kernel) ⟨Nat.le_of_ble_eq_true rfl, Nat.le_of_ble_eq_true rfl⟩) rfl hl.1 rfl (Nat.le_of_ble_eq_true rfl) ⟨(show kc oF oP i ≤ 601024 by have := kc_le (oF := oF) (oP := oP) hi; omega), (show ks oF oP i ≤ 7293034 by have := ks_le (oF := oF) (oP := oP) hi; omega)⟩ dL_law_775 (fun H locs hW => ?_)
  have hW := Wd.ofR hW
  refine lv_icmp_eq (tgt := 1422) hx hb dL_law_778 (by decide) (fun _ => ?_) (fun c9 => absurd rfl c9)
  refine W.widen (k := kc oF oP (i + 1)) (n := ks oF oP (i + 1)) kc_s ks_s ?_
  exact K ad S' oF oP T' v _ _ _ hW hl hrel
set_option maxHeartbeats 4000000 in
set_option maxRecDepth 100000 in
theorem law_19 {p : Program} {l : Launch} {e : Env} {s : State} {m : MethodId} {below : List Frame} {meth : Method} {c : Code} {b L : Nat} {xs : Nat → Int32} {D : va_G} {cy : Nat → ClassId} {Q : State → Prop} {n : Nat} {Rel : St → Option St → Option St → St → Prop} {br : Nat → Nat} {o i : Nat} {x4 : Int32} (htr : l.stackTraces = false) (hX : LX p s m c b L xs) (HB : HB_19 n Rel) (hi : i ≤ 512) (h1 : vp_in (x4 + 1) L) (h2 : vp_in (x4 + 2) L) (h3 : vp_in (x4 + 3) L) (h4 : vp_in (x4 + 4) L) (K : LK p l e s m below meth c b D cy Q Rel br o i x4) {ad : Nat → Nat} {S : St} {oF oP : Option St} {T : St} {v : Nat → Int64} {H : Heap} {locs : List Loc} {ls : Array Slot} (hRel : Rel S oF oP T) (hW : Wd D cy (fun q => s.heap.size ≤ q) s (WLw ad br cy o S oF oP T v) H locs) (hl : lv_has ls 8 [(0, .ref b), (1, .ref (ad 0)), (2, .ref (br 0)), (3, .ref o), (4, .int x4)]) : W p l e room_1 s m #[Value.ref b] below meth c H locs (kc oF oP i) (ks oF oP i) Q (F0 m 783 ls []) := by
  obtain ⟨hC, hXs, hbl, hE, hZ⟩ := hX
  have hx := hC.1
  have hb := hC.2.1
  have hts := hC.2.2.2.2
  have hbA : ¬ (fun q : Nat => s.heap.size ≤ q) b := Nat.not_le.mpr hbl
  refine lv_aload_n hx hb dL_law_783 rfl (lv_at hl 1 rfl) ?_
  refine lv_aload_n hx hb dL_law_784 rfl (lv_at hl 0 rfl) ?_
  refine lv_iload hx hb dL_law_785 (lv_at hl 4 rfl) ?_
  refine lv_iconst (v := 1) hx hb dL_law_787 (by decide) ?_
  refine lv_iadd hx hb dL_law_788 ?_
  refine va_sld hx hb hXs hbl hbA hW.2.2.2.1 h1 dL_law_789 ?_
  obtain ⟨r, S', T', hc, hrf, hrel⟩ := HB S oF oP T (xs (x4 + 1).toNatClampNeg) hRel
  refine wd_callV1 (As := [.int (xs (x4 + 1).toNatClampNeg)]) hC hW 0 wC_c0 rfl (c_X8_likeliest l D cy ad _ n S (xs (x4 + 1).toNatClampNeg) (r, S') hc) (cwV 1 hts (gl_V w_30_16 w_30_13 w_30_14 w_30_15 w_1_2) rfl rfl rfl (by decide +kernel) ⟨Nat.le_of_ble_eq_true rfl, Nat.le_of_ble_eq_true rfl⟩) rfl hl.1 rfl (Nat.le_of_ble_eq_true rfl) ⟨(show kc oF oP i ≤ 601024 by have := kc_le (oF := oF) (oP := oP) hi; omega), (show ks oF oP i ≤ 7293034 by have := ks_le (oF := oF) (oP := oP) hi; omega)⟩ dL_law_790 (fun H locs hW => ?_)
  have hW : Wd D cy (fun q => s.heap.size ≤ q) s (WLw ad br cy o S' oF oP T v) H locs := hW
  refine lv_aload_n hx hb dL_law_793 rfl (lv_at hl 2 rfl) ?_
  refine lv_aload_n hx hb dL_law_794 rfl (lv_at hl 0 rfl) ?_
  refine lv_iload hx hb dL_law_795 (lv_at hl 4 rfl) ?_
  refine lv_iconst (v := 1) hx hb dL_law_797 (by decide) ?_
  refine lv_iadd hx hb dL_law_798 ?_
  refine va_sld hx hb hXs hbl hbA hW.2.2.2.1 h1 dL_law_799 ?_
  have hW := Wd.toR hW
  refine wd_callV1 (As := [.int (xs (x4 + 1).toNatClampNeg)]) hC hW 0 wR_c0 rfl (c_X9_likeliest l D cy br _ n T (xs (x4 + 1).toNatClampNeg) (r, T') hrf) (cwV 1 hts (gl_V w_31_7 w_31_4 w_31_5 w_31_6 w_1_5) rfl rfl rfl (by decide +kernel) ⟨Nat.le_of_ble_eq_true rfl, Nat.le_of_ble_eq_true rfl⟩) rfl hl.1 rfl (Nat.le_of_ble_eq_true rfl) ⟨(show kc oF oP i ≤ 601024 by have := kc_le (oF := oF) (oP := oP) hi; omega), (show ks oF oP i ≤ 7293034 by have := ks_le (oF := oF) (oP := oP) hi; omega)⟩ dL_law_800 (fun H locs hW => ?_)
  have hW := Wd.ofR hW
  refine lv_icmp_eq (tgt := 1422) hx hb dL_law_803 (by decide) (fun _ => ?_) (fun c9 => absurd rfl c9)
  refine W.widen (k := kc oF oP (i + 1)) (n := ks oF oP (i + 1)) kc_s ks_s ?_
  exact K ad S' oF oP T' v _ _ _ hW hl hrel
set_option maxHeartbeats 4000000 in
set_option maxRecDepth 100000 in
theorem law_20 {p : Program} {l : Launch} {e : Env} {s : State} {m : MethodId} {below : List Frame} {meth : Method} {c : Code} {b L : Nat} {xs : Nat → Int32} {D : va_G} {cy : Nat → ClassId} {Q : State → Prop} {n : Nat} {Rel : St → Option St → Option St → St → Prop} {br : Nat → Nat} {o i : Nat} {x4 : Int32} (htr : l.stackTraces = false) (hX : LX p s m c b L xs) (HB : HB_20 n Rel) (hi : i ≤ 512) (h1 : vp_in (x4 + 1) L) (h2 : vp_in (x4 + 2) L) (h3 : vp_in (x4 + 3) L) (h4 : vp_in (x4 + 4) L) (K : LK p l e s m below meth c b D cy Q Rel br o i x4) {ad : Nat → Nat} {S : St} {oF oP : Option St} {T : St} {v : Nat → Int64} {H : Heap} {locs : List Loc} {ls : Array Slot} (hRel : Rel S oF oP T) (hW : Wd D cy (fun q => s.heap.size ≤ q) s (WLw ad br cy o S oF oP T v) H locs) (hl : lv_has ls 8 [(0, .ref b), (1, .ref (ad 0)), (2, .ref (br 0)), (3, .ref o), (4, .int x4)]) : W p l e room_1 s m #[Value.ref b] below meth c H locs (kc oF oP i) (ks oF oP i) Q (F0 m 808 ls []) := by
  obtain ⟨hC, hXs, hbl, hE, hZ⟩ := hX
  have hx := hC.1
  have hb := hC.2.1
  have hts := hC.2.2.2.2
  have hbA : ¬ (fun q : Nat => s.heap.size ≤ q) b := Nat.not_le.mpr hbl
  refine lv_aload_n hx hb dL_law_808 rfl (lv_at hl 1 rfl) ?_
  refine lv_aload_n hx hb dL_law_809 rfl (lv_at hl 0 rfl) ?_
  refine lv_iload hx hb dL_law_810 (lv_at hl 4 rfl) ?_
  refine lv_iconst (v := 1) hx hb dL_law_812 (by decide) ?_
  refine lv_iadd hx hb dL_law_813 ?_
  refine va_sld hx hb hXs hbl hbA hW.2.2.2.1 h1 dL_law_814 ?_
  refine lv_aload_n hx hb dL_law_815 rfl (lv_at hl 0 rfl) ?_
  refine lv_iload hx hb dL_law_816 (lv_at hl 4 rfl) ?_
  refine lv_iconst (v := 2) hx hb dL_law_818 (by decide) ?_
  refine lv_iadd hx hb dL_law_819 ?_
  refine va_sld hx hb hXs hbl hbA hW.2.2.2.1 h2 dL_law_820 ?_
  obtain ⟨r, S', T', hc, hrf, hrel⟩ := HB S oF oP T (xs (x4 + 1).toNatClampNeg) (xs (x4 + 2).toNatClampNeg) hRel
  refine wd_callV1 (As := [.int (xs (x4 + 1).toNatClampNeg), .int (xs (x4 + 2).toNatClampNeg)]) hC hW 0 wC_c0 rfl (c_X8_beats l D cy ad _ n S (xs (x4 + 1).toNatClampNeg) (xs (x4 + 2).toNatClampNeg) (r, S') hc) (cwV 2 hts (gl_V w_31_15 w_31_12 w_31_13 w_31_14 w_1_2) rfl rfl rfl (by decide +kernel) ⟨Nat.le_of_ble_eq_true rfl, Nat.le_of_ble_eq_true rfl⟩) rfl hl.1 rfl (Nat.le_of_ble_eq_true rfl) ⟨(show kc oF oP i ≤ 601024 by have := kc_le (oF := oF) (oP := oP) hi; omega), (show ks oF oP i ≤ 7293034 by have := ks_le (oF := oF) (oP := oP) hi; omega)⟩ dL_law_821 (fun H locs hW => ?_)
  have hW : Wd D cy (fun q => s.heap.size ≤ q) s (WLw ad br cy o S' oF oP T v) H locs := hW
  refine lv_aload_n hx hb dL_law_824 rfl (lv_at hl 2 rfl) ?_
  refine lv_aload_n hx hb dL_law_825 rfl (lv_at hl 0 rfl) ?_
  refine lv_iload hx hb dL_law_826 (lv_at hl 4 rfl) ?_
  refine lv_iconst (v := 1) hx hb dL_law_828 (by decide) ?_
  refine lv_iadd hx hb dL_law_829 ?_
  refine va_sld hx hb hXs hbl hbA hW.2.2.2.1 h1 dL_law_830 ?_
  refine lv_aload_n hx hb dL_law_831 rfl (lv_at hl 0 rfl) ?_
  refine lv_iload hx hb dL_law_832 (lv_at hl 4 rfl) ?_
  refine lv_iconst (v := 2) hx hb dL_law_834 (by decide) ?_
  refine lv_iadd hx hb dL_law_835 ?_
  refine va_sld hx hb hXs hbl hbA hW.2.2.2.1 h2 dL_law_836 ?_
  have hW := Wd.toR hW
  refine wd_callV1 (As := [.int (xs (x4 + 1).toNatClampNeg), .int (xs (x4 + 2).toNatClampNeg)]) hC hW 0 wR_c0 rfl (c_X9_beats l D cy br _ n T (xs (x4 + 1).toNatClampNeg) (xs (x4 + 2).toNatClampNeg) (r, T') hrf) (cwV 2 hts (gl_V w_32_10 w_32_7 w_32_8 w_32_9 w_1_5) rfl rfl rfl (by decide +kernel) ⟨Nat.le_of_ble_eq_true rfl, Nat.le_of_ble_eq_true rfl⟩) rfl hl.1 rfl (Nat.le_of_ble_eq_true rfl) ⟨(show kc oF oP i ≤ 601024 by have := kc_le (oF := oF) (oP := oP) hi; omega), (show ks oF oP i ≤ 7293034 by have := ks_le (oF := oF) (oP := oP) hi; omega)⟩ dL_law_837 (fun H locs hW => ?_)
  have hW := Wd.ofR hW
  refine lv_icmp_eq (tgt := 1422) hx hb dL_law_840 (by decide) (fun _ => ?_) (fun c9 => absurd rfl c9)
  refine W.widen (k := kc oF oP (i + 1)) (n := ks oF oP (i + 1)) kc_s ks_s ?_
  exact K ad S' oF oP T' v _ _ _ hW hl hrel
set_option maxHeartbeats 4000000 in
set_option maxRecDepth 100000 in
theorem law_21 {p : Program} {l : Launch} {e : Env} {s : State} {m : MethodId} {below : List Frame} {meth : Method} {c : Code} {b L : Nat} {xs : Nat → Int32} {D : va_G} {cy : Nat → ClassId} {Q : State → Prop} {n : Nat} {Rel : St → Option St → Option St → St → Prop} {br : Nat → Nat} {o i : Nat} {x4 : Int32} (htr : l.stackTraces = false) (hX : LX p s m c b L xs) (HB : HB_21 n Rel) (hi : i ≤ 512) (h1 : vp_in (x4 + 1) L) (h2 : vp_in (x4 + 2) L) (h3 : vp_in (x4 + 3) L) (h4 : vp_in (x4 + 4) L) (K : LK p l e s m below meth c b D cy Q Rel br o i x4) {ad : Nat → Nat} {S : St} {oF oP : Option St} {T : St} {v : Nat → Int64} {H : Heap} {locs : List Loc} {ls : Array Slot} (hRel : Rel S oF oP T) (hW : Wd D cy (fun q => s.heap.size ≤ q) s (WLw ad br cy o S oF oP T v) H locs) (hl : lv_has ls 8 [(0, .ref b), (1, .ref (ad 0)), (2, .ref (br 0)), (3, .ref o), (4, .int x4)]) : W p l e room_1 s m #[Value.ref b] below meth c H locs (kc oF oP i) (ks oF oP i) Q (F0 m 845 ls []) := by
  obtain ⟨hC, hXs, hbl, hE, hZ⟩ := hX
  have hx := hC.1
  have hb := hC.2.1
  have hts := hC.2.2.2.2
  have hbA : ¬ (fun q : Nat => s.heap.size ≤ q) b := Nat.not_le.mpr hbl
  refine lv_aload_n hx hb dL_law_845 rfl (lv_at hl 1 rfl) ?_
  refine lv_aload_n hx hb dL_law_846 rfl (lv_at hl 0 rfl) ?_
  refine lv_iload hx hb dL_law_847 (lv_at hl 4 rfl) ?_
  refine lv_iconst (v := 1) hx hb dL_law_849 (by decide) ?_
  refine lv_iadd hx hb dL_law_850 ?_
  refine va_sld hx hb hXs hbl hbA hW.2.2.2.1 h1 dL_law_851 ?_
  obtain ⟨r, S', T', hc, hrf, hrel⟩ := HB S oF oP T (xs (x4 + 1).toNatClampNeg) hRel
  refine wd_callV1 (As := [.int (xs (x4 + 1).toNatClampNeg)]) hC hW 0 wC_c0 rfl (c_X8_wins l D cy ad _ n S (xs (x4 + 1).toNatClampNeg) (r, S') hc) (cwV 1 hts (gl_V w_32_22 w_32_19 w_32_20 w_32_21 w_1_2) rfl rfl rfl (by decide +kernel) ⟨Nat.le_of_ble_eq_true rfl, Nat.le_of_ble_eq_true rfl⟩) rfl hl.1 rfl (Nat.le_of_ble_eq_true rfl) ⟨(show kc oF oP i ≤ 601024 by have := kc_le (oF := oF) (oP := oP) hi; omega), (show ks oF oP i ≤ 7293034 by have := ks_le (oF := oF) (oP := oP) hi; omega)⟩ dL_law_852 (fun H locs hW => ?_)
  have hW : Wd D cy (fun q => s.heap.size ≤ q) s (WLw ad br cy o S' oF oP T v) H locs := hW
  refine lv_aload_n hx hb dL_law_855 rfl (lv_at hl 2 rfl) ?_
  refine lv_aload_n hx hb dL_law_856 rfl (lv_at hl 0 rfl) ?_
  refine lv_iload hx hb dL_law_857 (lv_at hl 4 rfl) ?_
  refine lv_iconst (v := 1) hx hb dL_law_859 (by decide) ?_
  refine lv_iadd hx hb dL_law_860 ?_
  refine va_sld hx hb hXs hbl hbA hW.2.2.2.1 h1 dL_law_861 ?_
  have hW := Wd.toR hW
  refine wd_callV1 (As := [.int (xs (x4 + 1).toNatClampNeg)]) hC hW 0 wR_c0 rfl (c_X9_wins l D cy br _ n T (xs (x4 + 1).toNatClampNeg) (r, T') hrf) (cwV 1 hts (gl_V w_33_6 w_33_3 w_33_4 w_33_5 w_1_5) rfl rfl rfl (by decide +kernel) ⟨Nat.le_of_ble_eq_true rfl, Nat.le_of_ble_eq_true rfl⟩) rfl hl.1 rfl (Nat.le_of_ble_eq_true rfl) ⟨(show kc oF oP i ≤ 601024 by have := kc_le (oF := oF) (oP := oP) hi; omega), (show ks oF oP i ≤ 7293034 by have := ks_le (oF := oF) (oP := oP) hi; omega)⟩ dL_law_862 (fun H locs hW => ?_)
  have hW := Wd.ofR hW
  refine lv_icmp_eq (tgt := 1422) hx hb dL_law_865 (by decide) (fun _ => ?_) (fun c9 => absurd rfl c9)
  refine W.widen (k := kc oF oP (i + 1)) (n := ks oF oP (i + 1)) kc_s ks_s ?_
  exact K ad S' oF oP T' v _ _ _ hW hl hrel
set_option maxHeartbeats 4000000 in
set_option maxRecDepth 100000 in
theorem law_22 {p : Program} {l : Launch} {e : Env} {s : State} {m : MethodId} {below : List Frame} {meth : Method} {c : Code} {b L : Nat} {xs : Nat → Int32} {D : va_G} {cy : Nat → ClassId} {Q : State → Prop} {n : Nat} {Rel : St → Option St → Option St → St → Prop} {br : Nat → Nat} {o i : Nat} {x4 : Int32} (htr : l.stackTraces = false) (hX : LX p s m c b L xs) (HB : HB_22 n Rel) (hi : i ≤ 512) (h1 : vp_in (x4 + 1) L) (h2 : vp_in (x4 + 2) L) (h3 : vp_in (x4 + 3) L) (h4 : vp_in (x4 + 4) L) (K : LK p l e s m below meth c b D cy Q Rel br o i x4) {ad : Nat → Nat} {S : St} {oF oP : Option St} {T : St} {v : Nat → Int64} {H : Heap} {locs : List Loc} {ls : Array Slot} (hRel : Rel S oF oP T) (hW : Wd D cy (fun q => s.heap.size ≤ q) s (WLw ad br cy o S oF oP T v) H locs) (hl : lv_has ls 8 [(0, .ref b), (1, .ref (ad 0)), (2, .ref (br 0)), (3, .ref o), (4, .int x4)]) : W p l e room_1 s m #[Value.ref b] below meth c H locs (kc oF oP i) (ks oF oP i) Q (F0 m 870 ls []) := by
  obtain ⟨hC, hXs, hbl, hE, hZ⟩ := hX
  have hx := hC.1
  have hb := hC.2.1
  have hts := hC.2.2.2.2
  have hbA : ¬ (fun q : Nat => s.heap.size ≤ q) b := Nat.not_le.mpr hbl
  refine lv_aload_n hx hb dL_law_870 rfl (lv_at hl 1 rfl) ?_
  refine lv_aload_n hx hb dL_law_871 rfl (lv_at hl 0 rfl) ?_
  refine lv_iload hx hb dL_law_872 (lv_at hl 4 rfl) ?_
  refine lv_iconst (v := 1) hx hb dL_law_874 (by decide) ?_
  refine lv_iadd hx hb dL_law_875 ?_
  refine va_sld hx hb hXs hbl hbA hW.2.2.2.1 h1 dL_law_876 ?_
  obtain ⟨r, S', T', hc, hrf, hrel⟩ := HB S oF oP T (xs (x4 + 1).toNatClampNeg) hRel
  refine wd_callV1 (As := [.int (xs (x4 + 1).toNatClampNeg)]) hC hW 0 wC_c0 rfl (c_X8_bombs l D cy ad _ n S (xs (x4 + 1).toNatClampNeg) (r, S') hc) (cwV 1 hts (gl_V w_33_19 w_33_16 w_33_17 w_33_18 w_1_2) rfl rfl rfl (by decide +kernel) ⟨Nat.le_of_ble_eq_true rfl, Nat.le_of_ble_eq_true rfl⟩) rfl hl.1 rfl (Nat.le_of_ble_eq_true rfl) ⟨(show kc oF oP i ≤ 601024 by have := kc_le (oF := oF) (oP := oP) hi; omega), (show ks oF oP i ≤ 7293034 by have := ks_le (oF := oF) (oP := oP) hi; omega)⟩ dL_law_877 (fun H locs hW => ?_)
  have hW : Wd D cy (fun q => s.heap.size ≤ q) s (WLw ad br cy o S' oF oP T v) H locs := hW
  refine lv_aload_n hx hb dL_law_880 rfl (lv_at hl 2 rfl) ?_
  refine lv_aload_n hx hb dL_law_881 rfl (lv_at hl 0 rfl) ?_
  refine lv_iload hx hb dL_law_882 (lv_at hl 4 rfl) ?_
  refine lv_iconst (v := 1) hx hb dL_law_884 (by decide) ?_
  refine lv_iadd hx hb dL_law_885 ?_
  refine va_sld hx hb hXs hbl hbA hW.2.2.2.1 h1 dL_law_886 ?_
  have hW := Wd.toR hW
  refine wd_callV1 (As := [.int (xs (x4 + 1).toNatClampNeg)]) hC hW 0 wR_c0 rfl (c_X9_bombs l D cy br _ n T (xs (x4 + 1).toNatClampNeg) (r, T') hrf) (cwV 1 hts (gl_V w_34_3 w_34_0 w_34_1 w_34_2 w_1_5) rfl rfl rfl (by decide +kernel) ⟨Nat.le_of_ble_eq_true rfl, Nat.le_of_ble_eq_true rfl⟩) rfl hl.1 rfl (Nat.le_of_ble_eq_true rfl) ⟨(show kc oF oP i ≤ 601024 by have := kc_le (oF := oF) (oP := oP) hi; omega), (show ks oF oP i ≤ 7293034 by have := ks_le (oF := oF) (oP := oP) hi; omega)⟩ dL_law_887 (fun H locs hW => ?_)
  have hW := Wd.ofR hW
  refine lv_icmp_eq (tgt := 1422) hx hb dL_law_890 (by decide) (fun _ => ?_) (fun c9 => absurd rfl c9)
  refine W.widen (k := kc oF oP (i + 1)) (n := ks oF oP (i + 1)) kc_s ks_s ?_
  exact K ad S' oF oP T' v _ _ _ hW hl hrel
set_option maxHeartbeats 4000000 in
set_option maxRecDepth 100000 in
theorem law_23 {p : Program} {l : Launch} {e : Env} {s : State} {m : MethodId} {below : List Frame} {meth : Method} {c : Code} {b L : Nat} {xs : Nat → Int32} {D : va_G} {cy : Nat → ClassId} {Q : State → Prop} {n : Nat} {Rel : St → Option St → Option St → St → Prop} {br : Nat → Nat} {o i : Nat} {x4 : Int32} (htr : l.stackTraces = false) (hX : LX p s m c b L xs) (HB : HB_23 n Rel) (hi : i ≤ 512) (h1 : vp_in (x4 + 1) L) (h2 : vp_in (x4 + 2) L) (h3 : vp_in (x4 + 3) L) (h4 : vp_in (x4 + 4) L) (K : LK p l e s m below meth c b D cy Q Rel br o i x4) {ad : Nat → Nat} {S : St} {oF oP : Option St} {T : St} {v : Nat → Int64} {H : Heap} {locs : List Loc} {ls : Array Slot} (hRel : Rel S oF oP T) (hW : Wd D cy (fun q => s.heap.size ≤ q) s (WLw ad br cy o S oF oP T v) H locs) (hl : lv_has ls 8 [(0, .ref b), (1, .ref (ad 0)), (2, .ref (br 0)), (3, .ref o), (4, .int x4)]) : W p l e room_1 s m #[Value.ref b] below meth c H locs (kc oF oP i) (ks oF oP i) Q (F0 m 895 ls []) := by
  obtain ⟨hC, hXs, hbl, hE, hZ⟩ := hX
  have hx := hC.1
  have hb := hC.2.1
  have hts := hC.2.2.2.2
  have hbA : ¬ (fun q : Nat => s.heap.size ≤ q) b := Nat.not_le.mpr hbl
  refine lv_aload_n hx hb dL_law_895 rfl (lv_at hl 1 rfl) ?_
  refine lv_aload_n hx hb dL_law_896 rfl (lv_at hl 0 rfl) ?_
  refine lv_iload hx hb dL_law_897 (lv_at hl 4 rfl) ?_
  refine lv_iconst (v := 1) hx hb dL_law_899 (by decide) ?_
  refine lv_iadd hx hb dL_law_900 ?_
  refine va_sld hx hb hXs hbl hbA hW.2.2.2.1 h1 dL_law_901 ?_
  refine lv_aload_n hx hb dL_law_902 rfl (lv_at hl 0 rfl) ?_
  refine lv_iload hx hb dL_law_903 (lv_at hl 4 rfl) ?_
  refine lv_iconst (v := 2) hx hb dL_law_905 (by decide) ?_
  refine lv_iadd hx hb dL_law_906 ?_
  refine va_sld hx hb hXs hbl hbA hW.2.2.2.1 h2 dL_law_907 ?_
  refine lv_aload_n hx hb dL_law_908 rfl (lv_at hl 0 rfl) ?_
  refine lv_iload hx hb dL_law_909 (lv_at hl 4 rfl) ?_
  refine lv_iconst (v := 3) hx hb dL_law_911 (by decide) ?_
  refine lv_iadd hx hb dL_law_912 ?_
  refine va_sld hx hb hXs hbl hbA hW.2.2.2.1 h3 dL_law_913 ?_
  obtain ⟨r, T', hc, hrf, hrel⟩ := HB S oF oP T (xs (x4 + 1).toNatClampNeg) (xs (x4 + 2).toNatClampNeg) (xs (x4 + 3).toNatClampNeg) hRel
  refine wd_callV1 (As := [.int (xs (x4 + 1).toNatClampNeg), .int (xs (x4 + 2).toNatClampNeg), .int (xs (x4 + 3).toNatClampNeg)]) hC hW 0 wC_c0 rfl (c_X8_opener l D cy ad _ n S (xs (x4 + 1).toNatClampNeg) (xs (x4 + 2).toNatClampNeg) (xs (x4 + 3).toNatClampNeg) r hc) (cwV 3 hts (gl_V w_34_10 w_34_7 w_34_8 w_34_9 w_1_2) rfl rfl rfl (by decide +kernel) ⟨Nat.le_of_ble_eq_true rfl, Nat.le_of_ble_eq_true rfl⟩) rfl hl.1 rfl (Nat.le_of_ble_eq_true rfl) ⟨(show kc oF oP i ≤ 601024 by have := kc_le (oF := oF) (oP := oP) hi; omega), (show ks oF oP i ≤ 7293034 by have := ks_le (oF := oF) (oP := oP) hi; omega)⟩ dL_law_914 (fun H locs hW => ?_)
  have hW : Wd D cy (fun q => s.heap.size ≤ q) s (WLw ad br cy o S oF oP T v) H locs := hW
  refine lv_aload_n hx hb dL_law_917 rfl (lv_at hl 2 rfl) ?_
  refine lv_aload_n hx hb dL_law_918 rfl (lv_at hl 0 rfl) ?_
  refine lv_iload hx hb dL_law_919 (lv_at hl 4 rfl) ?_
  refine lv_iconst (v := 1) hx hb dL_law_921 (by decide) ?_
  refine lv_iadd hx hb dL_law_922 ?_
  refine va_sld hx hb hXs hbl hbA hW.2.2.2.1 h1 dL_law_923 ?_
  refine lv_aload_n hx hb dL_law_924 rfl (lv_at hl 0 rfl) ?_
  refine lv_iload hx hb dL_law_925 (lv_at hl 4 rfl) ?_
  refine lv_iconst (v := 2) hx hb dL_law_927 (by decide) ?_
  refine lv_iadd hx hb dL_law_928 ?_
  refine va_sld hx hb hXs hbl hbA hW.2.2.2.1 h2 dL_law_929 ?_
  refine lv_aload_n hx hb dL_law_930 rfl (lv_at hl 0 rfl) ?_
  refine lv_iload hx hb dL_law_931 (lv_at hl 4 rfl) ?_
  refine lv_iconst (v := 3) hx hb dL_law_933 (by decide) ?_
  refine lv_iadd hx hb dL_law_934 ?_
  refine va_sld hx hb hXs hbl hbA hW.2.2.2.1 h3 dL_law_935 ?_
  have hW := Wd.toR hW
  refine wd_callV1 (As := [.int (xs (x4 + 1).toNatClampNeg), .int (xs (x4 + 2).toNatClampNeg), .int (xs (x4 + 3).toNatClampNeg)]) hC hW 0 wR_c0 rfl (c_X9_opener l D cy br _ n T (xs (x4 + 1).toNatClampNeg) (xs (x4 + 2).toNatClampNeg) (xs (x4 + 3).toNatClampNeg) (r, T') hrf) (cwV 3 hts (gl_V w_34_14 w_34_11 w_34_12 w_34_13 w_1_5) rfl rfl rfl (by decide +kernel) ⟨Nat.le_of_ble_eq_true rfl, Nat.le_of_ble_eq_true rfl⟩) rfl hl.1 rfl (Nat.le_of_ble_eq_true rfl) ⟨(show kc oF oP i ≤ 601024 by have := kc_le (oF := oF) (oP := oP) hi; omega), (show ks oF oP i ≤ 7293034 by have := ks_le (oF := oF) (oP := oP) hi; omega)⟩ dL_law_936 (fun H locs hW => ?_)
  have hW := Wd.ofR hW
  refine lv_icmp_eq (tgt := 1422) hx hb dL_law_939 (by decide) (fun _ => ?_) (fun c9 => absurd rfl c9)
  refine W.widen (k := kc oF oP (i + 1)) (n := ks oF oP (i + 1)) kc_s ks_s ?_
  exact K ad S oF oP T' v _ _ _ hW hl hrel
set_option maxHeartbeats 4000000 in
set_option maxRecDepth 100000 in
theorem law_24 {p : Program} {l : Launch} {e : Env} {s : State} {m : MethodId} {below : List Frame} {meth : Method} {c : Code} {b L : Nat} {xs : Nat → Int32} {D : va_G} {cy : Nat → ClassId} {Q : State → Prop} {n : Nat} {Rel : St → Option St → Option St → St → Prop} {br : Nat → Nat} {o i : Nat} {x4 : Int32} (htr : l.stackTraces = false) (hX : LX p s m c b L xs) (HB : HB_24 n Rel) (hi : i ≤ 512) (h1 : vp_in (x4 + 1) L) (h2 : vp_in (x4 + 2) L) (h3 : vp_in (x4 + 3) L) (h4 : vp_in (x4 + 4) L) (K : LK p l e s m below meth c b D cy Q Rel br o i x4) {ad : Nat → Nat} {S : St} {oF oP : Option St} {T : St} {v : Nat → Int64} {H : Heap} {locs : List Loc} {ls : Array Slot} (hRel : Rel S oF oP T) (hW : Wd D cy (fun q => s.heap.size ≤ q) s (WLw ad br cy o S oF oP T v) H locs) (hl : lv_has ls 8 [(0, .ref b), (1, .ref (ad 0)), (2, .ref (br 0)), (3, .ref o), (4, .int x4)]) : W p l e room_1 s m #[Value.ref b] below meth c H locs (kc oF oP i) (ks oF oP i) Q (F0 m 944 ls []) := by
  obtain ⟨hC, hXs, hbl, hE, hZ⟩ := hX
  have hx := hC.1
  have hb := hC.2.1
  have hts := hC.2.2.2.2
  have hbA : ¬ (fun q : Nat => s.heap.size ≤ q) b := Nat.not_le.mpr hbl
  refine lv_aload_n hx hb dL_law_944 rfl (lv_at hl 1 rfl) ?_
  refine lv_aload_n hx hb dL_law_945 rfl (lv_at hl 0 rfl) ?_
  refine lv_iload hx hb dL_law_946 (lv_at hl 4 rfl) ?_
  refine lv_iconst (v := 1) hx hb dL_law_948 (by decide) ?_
  refine lv_iadd hx hb dL_law_949 ?_
  refine va_sld hx hb hXs hbl hbA hW.2.2.2.1 h1 dL_law_950 ?_
  obtain ⟨r, S', oF', T', hcl, hrf, hrel⟩ := HB S oF oP T (xs (x4 + 1).toNatClampNeg) hRel
  rcases hcl with ⟨F, F', rfl, rfl, hc⟩ | ⟨rfl, rfl, hc⟩ | ⟨F', rfl, rfl, hc⟩
  · refine wd_callV1 (As := [.int (xs (x4 + 1).toNatClampNeg)]) hC hW 0 wC_c0 rfl (c_X8_heavy l D cy ad _ n S F (xs (x4 + 1).toNatClampNeg) (r, S', F') hc) (cwV 1 hts (gl_V w_34_18 w_34_15 w_34_16 w_34_17 w_1_2) rfl rfl rfl (by decide +kernel) ⟨Nat.le_of_ble_eq_true rfl, Nat.le_of_ble_eq_true rfl⟩) rfl hl.1 rfl (Nat.le_of_ble_eq_true rfl) ⟨(show kc (some F) oP i ≤ 601024 by have := kc_le (oF := (some F)) (oP := oP) hi; omega), (show ks (some F) oP i ≤ 7293034 by have := ks_le (oF := (some F)) (oP := oP) hi; omega)⟩ dL_law_951 (fun H locs hW => ?_)
    have hW : Wd D cy (fun q => s.heap.size ≤ q) s (WLw ad br cy o S' (some F') oP T v) H locs := hW
    refine lv_aload_n hx hb dL_law_954 rfl (lv_at hl 2 rfl) ?_
    refine lv_aload_n hx hb dL_law_955 rfl (lv_at hl 0 rfl) ?_
    refine lv_iload hx hb dL_law_956 (lv_at hl 4 rfl) ?_
    refine lv_iconst (v := 1) hx hb dL_law_958 (by decide) ?_
    refine lv_iadd hx hb dL_law_959 ?_
    refine va_sld hx hb hXs hbl hbA hW.2.2.2.1 h1 dL_law_960 ?_
    have hW := Wd.toR hW
    refine wd_callV1 (As := [.int (xs (x4 + 1).toNatClampNeg)]) hC hW 0 wR_c0 rfl (c_X9_heavy l D cy br _ n T (xs (x4 + 1).toNatClampNeg) (r, T') hrf) (cwV 1 hts (gl_V w_38_18 w_38_15 w_38_16 w_38_17 w_1_5) rfl rfl rfl (by decide +kernel) ⟨Nat.le_of_ble_eq_true rfl, Nat.le_of_ble_eq_true rfl⟩) rfl hl.1 rfl (Nat.le_of_ble_eq_true rfl) ⟨(show kc (some F) oP i ≤ 601024 by have := kc_le (oF := (some F)) (oP := oP) hi; omega), (show ks (some F) oP i ≤ 7293034 by have := ks_le (oF := (some F)) (oP := oP) hi; omega)⟩ dL_law_961 (fun H locs hW => ?_)
    have hW := Wd.ofR hW
    refine lv_icmp_eq (tgt := 1422) hx hb dL_law_964 (by decide) (fun _ => ?_) (fun c9 => absurd rfl c9)
    refine W.widen (k := kc (some F') oP (i + 1)) (n := ks (some F') oP (i + 1)) (by have := kc_s (oF := (some F)) (oP := oP) (i := i); simpa [kc] using this) (by have := ks_s (oF := (some F)) (oP := oP) (i := i); simpa [ks] using this) ?_
    exact K ad S' (some F') oP T' v _ _ _ hW hl hrel
  · refine wd_callV1 (As := [.int (xs (x4 + 1).toNatClampNeg)]) hC hW 0 wC_c0 rfl (c_X8_heavyN l D cy ad _ n S (xs (x4 + 1).toNatClampNeg) (r, S') hc) (cwV 1 hts (gl_V w_34_18 w_34_15 w_34_16 w_34_17 w_1_2) rfl rfl rfl (by decide +kernel) ⟨Nat.le_of_ble_eq_true rfl, Nat.le_of_ble_eq_true rfl⟩) rfl hl.1 rfl (Nat.le_of_ble_eq_true rfl) ⟨(show kc none oP i ≤ 601024 by have := kc_le (oF := none) (oP := oP) hi; omega), (show ks none oP i ≤ 7293034 by have := ks_le (oF := none) (oP := oP) hi; omega)⟩ dL_law_951 (fun H locs hW => ?_)
    have hW : Wd D cy (fun q => s.heap.size ≤ q) s (WLw ad br cy o S' none oP T v) H locs := hW
    refine lv_aload_n hx hb dL_law_954 rfl (lv_at hl 2 rfl) ?_
    refine lv_aload_n hx hb dL_law_955 rfl (lv_at hl 0 rfl) ?_
    refine lv_iload hx hb dL_law_956 (lv_at hl 4 rfl) ?_
    refine lv_iconst (v := 1) hx hb dL_law_958 (by decide) ?_
    refine lv_iadd hx hb dL_law_959 ?_
    refine va_sld hx hb hXs hbl hbA hW.2.2.2.1 h1 dL_law_960 ?_
    have hW := Wd.toR hW
    refine wd_callV1 (As := [.int (xs (x4 + 1).toNatClampNeg)]) hC hW 0 wR_c0 rfl (c_X9_heavy l D cy br _ n T (xs (x4 + 1).toNatClampNeg) (r, T') hrf) (cwV 1 hts (gl_V w_38_18 w_38_15 w_38_16 w_38_17 w_1_5) rfl rfl rfl (by decide +kernel) ⟨Nat.le_of_ble_eq_true rfl, Nat.le_of_ble_eq_true rfl⟩) rfl hl.1 rfl (Nat.le_of_ble_eq_true rfl) ⟨(show kc none oP i ≤ 601024 by have := kc_le (oF := none) (oP := oP) hi; omega), (show ks none oP i ≤ 7293034 by have := ks_le (oF := none) (oP := oP) hi; omega)⟩ dL_law_961 (fun H locs hW => ?_)
    have hW := Wd.ofR hW
    refine lv_icmp_eq (tgt := 1422) hx hb dL_law_964 (by decide) (fun _ => ?_) (fun c9 => absurd rfl c9)
    refine W.widen (k := kc none oP (i + 1)) (n := ks none oP (i + 1)) kc_s ks_s ?_
    exact K ad S' none oP T' v _ _ _ hW hl hrel
  · refine wa_callV (As := [.int (xs (x4 + 1).toNatClampNeg)]) hC hW 0 wC_c0 rfl (c_X8_heavyB l D cy ad _ n S (xs (x4 + 1).toNatClampNeg) (r, S', some F') hc) (cwV 1 hts (gl_V w_34_18 w_34_15 w_34_16 w_34_17 w_1_2) rfl rfl rfl (by decide +kernel) ⟨Nat.le_of_ble_eq_true rfl, Nat.le_of_ble_eq_true rfl⟩) rfl hl.1 rfl (Nat.le_of_ble_eq_true rfl) ⟨(show kc none oP i + 22 ≤ 601024 by have := kc_le (oF := none) (oP := oP) hi; omega), (show ks none oP i + 3306 ≤ 7293034 by have := ks_le (oF := none) (oP := oP) hi; omega)⟩ dL_law_951 (fun r9 w9 H locs hp hW => ?_)
    obtain ⟨rfl, hp⟩ := hp
    rcases hp with ⟨hp, -⟩ | ⟨f, qs, hp, rfl⟩
    · cases hp
    cases hp
    have hW : Wd D cy (fun q => s.heap.size ≤ q) s (WLw (adU ad 59 81 qs) br cy o S' (some F') oP T v) H locs := by
      exact hW.cast (by cases oP <;> rfl)
    have hl : lv_has ls 8 [(0, .ref b), (1, .ref (adU ad 59 81 qs 0)), (2, .ref (br 0)), (3, .ref o), (4, .int x4)] := hl
    refine W.eq (g2 := F0 m 954 ls [.int r]) rfl ?_
    refine lv_aload_n hx hb dL_law_954 rfl (lv_at hl 2 rfl) ?_
    refine lv_aload_n hx hb dL_law_955 rfl (lv_at hl 0 rfl) ?_
    refine lv_iload hx hb dL_law_956 (lv_at hl 4 rfl) ?_
    refine lv_iconst (v := 1) hx hb dL_law_958 (by decide) ?_
    refine lv_iadd hx hb dL_law_959 ?_
    refine va_sld hx hb hXs hbl hbA hW.2.2.2.1 h1 dL_law_960 ?_
    have hW := Wd.toR hW
    refine wd_callV1 (As := [.int (xs (x4 + 1).toNatClampNeg)]) hC hW 0 wR_c0 rfl (c_X9_heavy l D cy br _ n T (xs (x4 + 1).toNatClampNeg) (r, T') hrf) (cwV 1 hts (gl_V w_38_18 w_38_15 w_38_16 w_38_17 w_1_5) rfl rfl rfl (by decide +kernel) ⟨Nat.le_of_ble_eq_true rfl, Nat.le_of_ble_eq_true rfl⟩) rfl hl.1 rfl (Nat.le_of_ble_eq_true rfl) ⟨(show kc none oP i + 22 ≤ 601024 by have := kc_le (oF := none) (oP := oP) hi; omega), (show ks none oP i + 3306 ≤ 7293034 by have := ks_le (oF := none) (oP := oP) hi; omega)⟩ dL_law_961 (fun H locs hW => ?_)
    have hW := Wd.ofR hW
    refine lv_icmp_eq (tgt := 1422) hx hb dL_law_964 (by decide) (fun _ => ?_) (fun c9 => absurd rfl c9)
    refine W.widen (k := kc (some F') oP (i + 1)) (n := ks (some F') oP (i + 1)) kc_F ks_F ?_
    exact K (adU ad 59 81 qs) S' (some F') oP T' v _ _ _ hW hl hrel
set_option maxHeartbeats 4000000 in
set_option maxRecDepth 100000 in
theorem law_25 {p : Program} {l : Launch} {e : Env} {s : State} {m : MethodId} {below : List Frame} {meth : Method} {c : Code} {b L : Nat} {xs : Nat → Int32} {D : va_G} {cy : Nat → ClassId} {Q : State → Prop} {n : Nat} {Rel : St → Option St → Option St → St → Prop} {br : Nat → Nat} {o i : Nat} {x4 : Int32} (htr : l.stackTraces = false) (hX : LX p s m c b L xs) (HB : HB_25 n Rel) (hi : i ≤ 512) (h1 : vp_in (x4 + 1) L) (h2 : vp_in (x4 + 2) L) (h3 : vp_in (x4 + 3) L) (h4 : vp_in (x4 + 4) L) (K : LK p l e s m below meth c b D cy Q Rel br o i x4) {ad : Nat → Nat} {S : St} {oF oP : Option St} {T : St} {v : Nat → Int64} {H : Heap} {locs : List Loc} {ls : Array Slot} (hRel : Rel S oF oP T) (hW : Wd D cy (fun q => s.heap.size ≤ q) s (WLw ad br cy o S oF oP T v) H locs) (hl : lv_has ls 8 [(0, .ref b), (1, .ref (ad 0)), (2, .ref (br 0)), (3, .ref o), (4, .int x4)]) : W p l e room_1 s m #[Value.ref b] below meth c H locs (kc oF oP i) (ks oF oP i) Q (F0 m 969 ls []) := by
  obtain ⟨hC, hXs, hbl, hE, hZ⟩ := hX
  have hx := hC.1
  have hb := hC.2.1
  have hts := hC.2.2.2.2
  have hbA : ¬ (fun q : Nat => s.heap.size ≤ q) b := Nat.not_le.mpr hbl
  refine lv_aload_n hx hb dL_law_969 rfl (lv_at hl 1 rfl) ?_
  refine lv_aload_n hx hb dL_law_970 rfl (lv_at hl 0 rfl) ?_
  refine lv_iload hx hb dL_law_971 (lv_at hl 4 rfl) ?_
  refine lv_iconst (v := 1) hx hb dL_law_973 (by decide) ?_
  refine lv_iadd hx hb dL_law_974 ?_
  refine va_sld hx hb hXs hbl hbA hW.2.2.2.1 h1 dL_law_975 ?_
  refine lv_aload_n hx hb dL_law_976 rfl (lv_at hl 0 rfl) ?_
  refine lv_iload hx hb dL_law_977 (lv_at hl 4 rfl) ?_
  refine lv_iconst (v := 2) hx hb dL_law_979 (by decide) ?_
  refine lv_iadd hx hb dL_law_980 ?_
  refine va_sld hx hb hXs hbl hbA hW.2.2.2.1 h2 dL_law_981 ?_
  obtain ⟨r, S', oF', T', hcl, hrf, hrel⟩ := HB S oF oP T (xs (x4 + 1).toNatClampNeg) (xs (x4 + 2).toNatClampNeg) hRel
  rcases hcl with ⟨F, F', rfl, rfl, hc⟩ | ⟨rfl, rfl, hc⟩ | ⟨F', rfl, rfl, hc⟩
  · refine wd_callV1 (As := [.int (xs (x4 + 1).toNatClampNeg), .int (xs (x4 + 2).toNatClampNeg)]) hC hW 0 wC_c0 rfl (c_X8_reach l D cy ad _ n S F (xs (x4 + 1).toNatClampNeg) (xs (x4 + 2).toNatClampNeg) (r, S', F') hc) (cwV 2 hts (gl_V w_40_13 w_40_10 w_40_11 w_40_12 w_1_2) rfl rfl rfl (by decide +kernel) ⟨Nat.le_of_ble_eq_true rfl, Nat.le_of_ble_eq_true rfl⟩) rfl hl.1 rfl (Nat.le_of_ble_eq_true rfl) ⟨(show kc (some F) oP i ≤ 601024 by have := kc_le (oF := (some F)) (oP := oP) hi; omega), (show ks (some F) oP i ≤ 7293034 by have := ks_le (oF := (some F)) (oP := oP) hi; omega)⟩ dL_law_982 (fun H locs hW => ?_)
    have hW : Wd D cy (fun q => s.heap.size ≤ q) s (WLw ad br cy o S' (some F') oP T v) H locs := hW
    refine lv_aload_n hx hb dL_law_985 rfl (lv_at hl 2 rfl) ?_
    refine lv_aload_n hx hb dL_law_986 rfl (lv_at hl 0 rfl) ?_
    refine lv_iload hx hb dL_law_987 (lv_at hl 4 rfl) ?_
    refine lv_iconst (v := 1) hx hb dL_law_989 (by decide) ?_
    refine lv_iadd hx hb dL_law_990 ?_
    refine va_sld hx hb hXs hbl hbA hW.2.2.2.1 h1 dL_law_991 ?_
    refine lv_aload_n hx hb dL_law_992 rfl (lv_at hl 0 rfl) ?_
    refine lv_iload hx hb dL_law_993 (lv_at hl 4 rfl) ?_
    refine lv_iconst (v := 2) hx hb dL_law_995 (by decide) ?_
    refine lv_iadd hx hb dL_law_996 ?_
    refine va_sld hx hb hXs hbl hbA hW.2.2.2.1 h2 dL_law_997 ?_
    have hW := Wd.toR hW
    refine wd_callV1 (As := [.int (xs (x4 + 1).toNatClampNeg), .int (xs (x4 + 2).toNatClampNeg)]) hC hW 0 wR_c0 rfl (c_X9_reach l D cy br _ n T (xs (x4 + 1).toNatClampNeg) (xs (x4 + 2).toNatClampNeg) (r, T') hrf) (cwV 2 hts (gl_V w_40_17 w_40_14 w_40_15 w_40_16 w_1_5) rfl rfl rfl (by decide +kernel) ⟨Nat.le_of_ble_eq_true rfl, Nat.le_of_ble_eq_true rfl⟩) rfl hl.1 rfl (Nat.le_of_ble_eq_true rfl) ⟨(show kc (some F) oP i ≤ 601024 by have := kc_le (oF := (some F)) (oP := oP) hi; omega), (show ks (some F) oP i ≤ 7293034 by have := ks_le (oF := (some F)) (oP := oP) hi; omega)⟩ dL_law_998 (fun H locs hW => ?_)
    have hW := Wd.ofR hW
    refine lv_icmp_eq (tgt := 1422) hx hb dL_law_1001 (by decide) (fun _ => ?_) (fun c9 => absurd rfl c9)
    refine W.widen (k := kc (some F') oP (i + 1)) (n := ks (some F') oP (i + 1)) (by have := kc_s (oF := (some F)) (oP := oP) (i := i); simpa [kc] using this) (by have := ks_s (oF := (some F)) (oP := oP) (i := i); simpa [ks] using this) ?_
    exact K ad S' (some F') oP T' v _ _ _ hW hl hrel
  · refine wd_callV1 (As := [.int (xs (x4 + 1).toNatClampNeg), .int (xs (x4 + 2).toNatClampNeg)]) hC hW 0 wC_c0 rfl (c_X8_reachN l D cy ad _ n S (xs (x4 + 1).toNatClampNeg) (xs (x4 + 2).toNatClampNeg) (r, S') hc) (cwV 2 hts (gl_V w_40_13 w_40_10 w_40_11 w_40_12 w_1_2) rfl rfl rfl (by decide +kernel) ⟨Nat.le_of_ble_eq_true rfl, Nat.le_of_ble_eq_true rfl⟩) rfl hl.1 rfl (Nat.le_of_ble_eq_true rfl) ⟨(show kc none oP i ≤ 601024 by have := kc_le (oF := none) (oP := oP) hi; omega), (show ks none oP i ≤ 7293034 by have := ks_le (oF := none) (oP := oP) hi; omega)⟩ dL_law_982 (fun H locs hW => ?_)
    have hW : Wd D cy (fun q => s.heap.size ≤ q) s (WLw ad br cy o S' none oP T v) H locs := hW
    refine lv_aload_n hx hb dL_law_985 rfl (lv_at hl 2 rfl) ?_
    refine lv_aload_n hx hb dL_law_986 rfl (lv_at hl 0 rfl) ?_
    refine lv_iload hx hb dL_law_987 (lv_at hl 4 rfl) ?_
    refine lv_iconst (v := 1) hx hb dL_law_989 (by decide) ?_
    refine lv_iadd hx hb dL_law_990 ?_
    refine va_sld hx hb hXs hbl hbA hW.2.2.2.1 h1 dL_law_991 ?_
    refine lv_aload_n hx hb dL_law_992 rfl (lv_at hl 0 rfl) ?_
    refine lv_iload hx hb dL_law_993 (lv_at hl 4 rfl) ?_
    refine lv_iconst (v := 2) hx hb dL_law_995 (by decide) ?_
    refine lv_iadd hx hb dL_law_996 ?_
    refine va_sld hx hb hXs hbl hbA hW.2.2.2.1 h2 dL_law_997 ?_
    have hW := Wd.toR hW
    refine wd_callV1 (As := [.int (xs (x4 + 1).toNatClampNeg), .int (xs (x4 + 2).toNatClampNeg)]) hC hW 0 wR_c0 rfl (c_X9_reach l D cy br _ n T (xs (x4 + 1).toNatClampNeg) (xs (x4 + 2).toNatClampNeg) (r, T') hrf) (cwV 2 hts (gl_V w_40_17 w_40_14 w_40_15 w_40_16 w_1_5) rfl rfl rfl (by decide +kernel) ⟨Nat.le_of_ble_eq_true rfl, Nat.le_of_ble_eq_true rfl⟩) rfl hl.1 rfl (Nat.le_of_ble_eq_true rfl) ⟨(show kc none oP i ≤ 601024 by have := kc_le (oF := none) (oP := oP) hi; omega), (show ks none oP i ≤ 7293034 by have := ks_le (oF := none) (oP := oP) hi; omega)⟩ dL_law_998 (fun H locs hW => ?_)
    have hW := Wd.ofR hW
    refine lv_icmp_eq (tgt := 1422) hx hb dL_law_1001 (by decide) (fun _ => ?_) (fun c9 => absurd rfl c9)
    refine W.widen (k := kc none oP (i + 1)) (n := ks none oP (i + 1)) kc_s ks_s ?_
    exact K ad S' none oP T' v _ _ _ hW hl hrel
  · refine wa_callV (As := [.int (xs (x4 + 1).toNatClampNeg), .int (xs (x4 + 2).toNatClampNeg)]) hC hW 0 wC_c0 rfl (c_X8_reachB l D cy ad _ n S (xs (x4 + 1).toNatClampNeg) (xs (x4 + 2).toNatClampNeg) (r, S', some F') hc) (cwV 2 hts (gl_V w_40_13 w_40_10 w_40_11 w_40_12 w_1_2) rfl rfl rfl (by decide +kernel) ⟨Nat.le_of_ble_eq_true rfl, Nat.le_of_ble_eq_true rfl⟩) rfl hl.1 rfl (Nat.le_of_ble_eq_true rfl) ⟨(show kc none oP i + 22 ≤ 601024 by have := kc_le (oF := none) (oP := oP) hi; omega), (show ks none oP i + 3306 ≤ 7293034 by have := ks_le (oF := none) (oP := oP) hi; omega)⟩ dL_law_982 (fun r9 w9 H locs hp hW => ?_)
    obtain ⟨rfl, hp⟩ := hp
    rcases hp with ⟨hp, -⟩ | ⟨f, qs, hp, rfl⟩
    · cases hp
    cases hp
    have hW : Wd D cy (fun q => s.heap.size ≤ q) s (WLw (adU ad 59 81 qs) br cy o S' (some F') oP T v) H locs := by
      exact hW.cast (by cases oP <;> rfl)
    have hl : lv_has ls 8 [(0, .ref b), (1, .ref (adU ad 59 81 qs 0)), (2, .ref (br 0)), (3, .ref o), (4, .int x4)] := hl
    refine W.eq (g2 := F0 m 985 ls [.int r]) rfl ?_
    refine lv_aload_n hx hb dL_law_985 rfl (lv_at hl 2 rfl) ?_
    refine lv_aload_n hx hb dL_law_986 rfl (lv_at hl 0 rfl) ?_
    refine lv_iload hx hb dL_law_987 (lv_at hl 4 rfl) ?_
    refine lv_iconst (v := 1) hx hb dL_law_989 (by decide) ?_
    refine lv_iadd hx hb dL_law_990 ?_
    refine va_sld hx hb hXs hbl hbA hW.2.2.2.1 h1 dL_law_991 ?_
    refine lv_aload_n hx hb dL_law_992 rfl (lv_at hl 0 rfl) ?_
    refine lv_iload hx hb dL_law_993 (lv_at hl 4 rfl) ?_
    refine lv_iconst (v := 2) hx hb dL_law_995 (by decide) ?_
    refine lv_iadd hx hb dL_law_996 ?_
    refine va_sld hx hb hXs hbl hbA hW.2.2.2.1 h2 dL_law_997 ?_
    have hW := Wd.toR hW
    refine wd_callV1 (As := [.int (xs (x4 + 1).toNatClampNeg), .int (xs (x4 + 2).toNatClampNeg)]) hC hW 0 wR_c0 rfl (c_X9_reach l D cy br _ n T (xs (x4 + 1).toNatClampNeg) (xs (x4 + 2).toNatClampNeg) (r, T') hrf) (cwV 2 hts (gl_V w_40_17 w_40_14 w_40_15 w_40_16 w_1_5) rfl rfl rfl (by decide +kernel) ⟨Nat.le_of_ble_eq_true rfl, Nat.le_of_ble_eq_true rfl⟩) rfl hl.1 rfl (Nat.le_of_ble_eq_true rfl) ⟨(show kc none oP i + 22 ≤ 601024 by have := kc_le (oF := none) (oP := oP) hi; omega), (show ks none oP i + 3306 ≤ 7293034 by have := ks_le (oF := none) (oP := oP) hi; omega)⟩ dL_law_998 (fun H locs hW => ?_)
    have hW := Wd.ofR hW
    refine lv_icmp_eq (tgt := 1422) hx hb dL_law_1001 (by decide) (fun _ => ?_) (fun c9 => absurd rfl c9)
    refine W.widen (k := kc (some F') oP (i + 1)) (n := ks (some F') oP (i + 1)) kc_F ks_F ?_
    exact K (adU ad 59 81 qs) S' (some F') oP T' v _ _ _ hW hl hrel
set_option maxHeartbeats 4000000 in
set_option maxRecDepth 100000 in
theorem law_26 {p : Program} {l : Launch} {e : Env} {s : State} {m : MethodId} {below : List Frame} {meth : Method} {c : Code} {b L : Nat} {xs : Nat → Int32} {D : va_G} {cy : Nat → ClassId} {Q : State → Prop} {n : Nat} {Rel : St → Option St → Option St → St → Prop} {br : Nat → Nat} {o i : Nat} {x4 : Int32} (htr : l.stackTraces = false) (hX : LX p s m c b L xs) (HB : HB_26 n Rel) (hi : i ≤ 512) (h1 : vp_in (x4 + 1) L) (h2 : vp_in (x4 + 2) L) (h3 : vp_in (x4 + 3) L) (h4 : vp_in (x4 + 4) L) (K : LK p l e s m below meth c b D cy Q Rel br o i x4) {ad : Nat → Nat} {S : St} {oF oP : Option St} {T : St} {v : Nat → Int64} {H : Heap} {locs : List Loc} {ls : Array Slot} (hRel : Rel S oF oP T) (hW : Wd D cy (fun q => s.heap.size ≤ q) s (WLw ad br cy o S oF oP T v) H locs) (hl : lv_has ls 8 [(0, .ref b), (1, .ref (ad 0)), (2, .ref (br 0)), (3, .ref o), (4, .int x4)]) : W p l e room_1 s m #[Value.ref b] below meth c H locs (kc oF oP i) (ks oF oP i) Q (F0 m 1006 ls []) := by
  obtain ⟨hC, hXs, hbl, hE, hZ⟩ := hX
  have hx := hC.1
  have hb := hC.2.1
  have hts := hC.2.2.2.2
  have hbA : ¬ (fun q : Nat => s.heap.size ≤ q) b := Nat.not_le.mpr hbl
  refine lv_aload_n hx hb dL_law_1006 rfl (lv_at hl 1 rfl) ?_
  refine lv_aload_n hx hb dL_law_1007 rfl (lv_at hl 0 rfl) ?_
  refine lv_iload hx hb dL_law_1008 (lv_at hl 4 rfl) ?_
  refine lv_iconst (v := 1) hx hb dL_law_1010 (by decide) ?_
  refine lv_iadd hx hb dL_law_1011 ?_
  refine va_sld hx hb hXs hbl hbA hW.2.2.2.1 h1 dL_law_1012 ?_
  refine lv_aload_n hx hb dL_law_1013 rfl (lv_at hl 0 rfl) ?_
  refine lv_iload hx hb dL_law_1014 (lv_at hl 4 rfl) ?_
  refine lv_iconst (v := 2) hx hb dL_law_1016 (by decide) ?_
  refine lv_iadd hx hb dL_law_1017 ?_
  refine va_sld hx hb hXs hbl hbA hW.2.2.2.1 h2 dL_law_1018 ?_
  obtain ⟨r, S', oF', T', hcl, hrf, hrel⟩ := HB S oF oP T (xs (x4 + 1).toNatClampNeg) (xs (x4 + 2).toNatClampNeg) hRel
  rcases hcl with ⟨F, F', rfl, rfl, hc⟩ | ⟨rfl, rfl, hc⟩ | ⟨F', rfl, rfl, hc⟩
  · refine wd_callV1 (As := [.int (xs (x4 + 1).toNatClampNeg), .int (xs (x4 + 2).toNatClampNeg)]) hC hW 0 wC_c0 rfl (c_X8_aim l D cy ad _ n S F (xs (x4 + 1).toNatClampNeg) (xs (x4 + 2).toNatClampNeg) (r, S', F') hc) (cwV 2 hts (gl_V w_40_21 w_40_18 w_40_19 w_40_20 w_1_2) rfl rfl rfl (by decide +kernel) ⟨Nat.le_of_ble_eq_true rfl, Nat.le_of_ble_eq_true rfl⟩) rfl hl.1 rfl (Nat.le_of_ble_eq_true rfl) ⟨(show kc (some F) oP i ≤ 601024 by have := kc_le (oF := (some F)) (oP := oP) hi; omega), (show ks (some F) oP i ≤ 7293034 by have := ks_le (oF := (some F)) (oP := oP) hi; omega)⟩ dL_law_1019 (fun H locs hW => ?_)
    have hW : Wd D cy (fun q => s.heap.size ≤ q) s (WLw ad br cy o S' (some F') oP T v) H locs := hW
    refine lv_aload_n hx hb dL_law_1022 rfl (lv_at hl 2 rfl) ?_
    refine lv_aload_n hx hb dL_law_1023 rfl (lv_at hl 0 rfl) ?_
    refine lv_iload hx hb dL_law_1024 (lv_at hl 4 rfl) ?_
    refine lv_iconst (v := 1) hx hb dL_law_1026 (by decide) ?_
    refine lv_iadd hx hb dL_law_1027 ?_
    refine va_sld hx hb hXs hbl hbA hW.2.2.2.1 h1 dL_law_1028 ?_
    refine lv_aload_n hx hb dL_law_1029 rfl (lv_at hl 0 rfl) ?_
    refine lv_iload hx hb dL_law_1030 (lv_at hl 4 rfl) ?_
    refine lv_iconst (v := 2) hx hb dL_law_1032 (by decide) ?_
    refine lv_iadd hx hb dL_law_1033 ?_
    refine va_sld hx hb hXs hbl hbA hW.2.2.2.1 h2 dL_law_1034 ?_
    have hW := Wd.toR hW
    refine wd_callV1 (As := [.int (xs (x4 + 1).toNatClampNeg), .int (xs (x4 + 2).toNatClampNeg)]) hC hW 0 wR_c0 rfl (c_X9_aim l D cy br _ n T (xs (x4 + 1).toNatClampNeg) (xs (x4 + 2).toNatClampNeg) (r, T') hrf) (cwV 2 hts (gl_V w_41_1 w_40_22 w_40_23 w_41_0 w_1_5) rfl rfl rfl (by decide +kernel) ⟨Nat.le_of_ble_eq_true rfl, Nat.le_of_ble_eq_true rfl⟩) rfl hl.1 rfl (Nat.le_of_ble_eq_true rfl) ⟨(show kc (some F) oP i ≤ 601024 by have := kc_le (oF := (some F)) (oP := oP) hi; omega), (show ks (some F) oP i ≤ 7293034 by have := ks_le (oF := (some F)) (oP := oP) hi; omega)⟩ dL_law_1035 (fun H locs hW => ?_)
    have hW := Wd.ofR hW
    refine lv_icmp_eq (tgt := 1422) hx hb dL_law_1038 (by decide) (fun _ => ?_) (fun c9 => absurd rfl c9)
    refine W.widen (k := kc (some F') oP (i + 1)) (n := ks (some F') oP (i + 1)) (by have := kc_s (oF := (some F)) (oP := oP) (i := i); simpa [kc] using this) (by have := ks_s (oF := (some F)) (oP := oP) (i := i); simpa [ks] using this) ?_
    exact K ad S' (some F') oP T' v _ _ _ hW hl hrel
  · refine wd_callV1 (As := [.int (xs (x4 + 1).toNatClampNeg), .int (xs (x4 + 2).toNatClampNeg)]) hC hW 0 wC_c0 rfl (c_X8_aimN l D cy ad _ S (xs (x4 + 1).toNatClampNeg) (xs (x4 + 2).toNatClampNeg) (r, S') hc) (cwV 2 hts (gl_V w_40_21 w_40_18 w_40_19 w_40_20 w_1_2) rfl rfl rfl (by decide +kernel) ⟨Nat.le_of_ble_eq_true rfl, Nat.le_of_ble_eq_true rfl⟩) rfl hl.1 rfl (Nat.le_of_ble_eq_true rfl) ⟨(show kc none oP i ≤ 601024 by have := kc_le (oF := none) (oP := oP) hi; omega), (show ks none oP i ≤ 7293034 by have := ks_le (oF := none) (oP := oP) hi; omega)⟩ dL_law_1019 (fun H locs hW => ?_)
    have hW : Wd D cy (fun q => s.heap.size ≤ q) s (WLw ad br cy o S' none oP T v) H locs := hW
    refine lv_aload_n hx hb dL_law_1022 rfl (lv_at hl 2 rfl) ?_
    refine lv_aload_n hx hb dL_law_1023 rfl (lv_at hl 0 rfl) ?_
    refine lv_iload hx hb dL_law_1024 (lv_at hl 4 rfl) ?_
    refine lv_iconst (v := 1) hx hb dL_law_1026 (by decide) ?_
    refine lv_iadd hx hb dL_law_1027 ?_
    refine va_sld hx hb hXs hbl hbA hW.2.2.2.1 h1 dL_law_1028 ?_
    refine lv_aload_n hx hb dL_law_1029 rfl (lv_at hl 0 rfl) ?_
    refine lv_iload hx hb dL_law_1030 (lv_at hl 4 rfl) ?_
    refine lv_iconst (v := 2) hx hb dL_law_1032 (by decide) ?_
    refine lv_iadd hx hb dL_law_1033 ?_
    refine va_sld hx hb hXs hbl hbA hW.2.2.2.1 h2 dL_law_1034 ?_
    have hW := Wd.toR hW
    refine wd_callV1 (As := [.int (xs (x4 + 1).toNatClampNeg), .int (xs (x4 + 2).toNatClampNeg)]) hC hW 0 wR_c0 rfl (c_X9_aim l D cy br _ n T (xs (x4 + 1).toNatClampNeg) (xs (x4 + 2).toNatClampNeg) (r, T') hrf) (cwV 2 hts (gl_V w_41_1 w_40_22 w_40_23 w_41_0 w_1_5) rfl rfl rfl (by decide +kernel) ⟨Nat.le_of_ble_eq_true rfl, Nat.le_of_ble_eq_true rfl⟩) rfl hl.1 rfl (Nat.le_of_ble_eq_true rfl) ⟨(show kc none oP i ≤ 601024 by have := kc_le (oF := none) (oP := oP) hi; omega), (show ks none oP i ≤ 7293034 by have := ks_le (oF := none) (oP := oP) hi; omega)⟩ dL_law_1035 (fun H locs hW => ?_)
    have hW := Wd.ofR hW
    refine lv_icmp_eq (tgt := 1422) hx hb dL_law_1038 (by decide) (fun _ => ?_) (fun c9 => absurd rfl c9)
    refine W.widen (k := kc none oP (i + 1)) (n := ks none oP (i + 1)) kc_s ks_s ?_
    exact K ad S' none oP T' v _ _ _ hW hl hrel
  · refine wa_callV (As := [.int (xs (x4 + 1).toNatClampNeg), .int (xs (x4 + 2).toNatClampNeg)]) hC hW 0 wC_c0 rfl (c_X8_aimB l D cy ad _ n S (xs (x4 + 1).toNatClampNeg) (xs (x4 + 2).toNatClampNeg) (r, S', some F') hc) (cwV 2 hts (gl_V w_40_21 w_40_18 w_40_19 w_40_20 w_1_2) rfl rfl rfl (by decide +kernel) ⟨Nat.le_of_ble_eq_true rfl, Nat.le_of_ble_eq_true rfl⟩) rfl hl.1 rfl (Nat.le_of_ble_eq_true rfl) ⟨(show kc none oP i + 22 ≤ 601024 by have := kc_le (oF := none) (oP := oP) hi; omega), (show ks none oP i + 3306 ≤ 7293034 by have := ks_le (oF := none) (oP := oP) hi; omega)⟩ dL_law_1019 (fun r9 w9 H locs hp hW => ?_)
    obtain ⟨rfl, hp⟩ := hp
    rcases hp with ⟨hp, -⟩ | ⟨f, qs, hp, rfl⟩
    · cases hp
    cases hp
    have hW : Wd D cy (fun q => s.heap.size ≤ q) s (WLw (adU ad 59 81 qs) br cy o S' (some F') oP T v) H locs := by
      exact hW.cast (by cases oP <;> rfl)
    have hl : lv_has ls 8 [(0, .ref b), (1, .ref (adU ad 59 81 qs 0)), (2, .ref (br 0)), (3, .ref o), (4, .int x4)] := hl
    refine W.eq (g2 := F0 m 1022 ls [.int r]) rfl ?_
    refine lv_aload_n hx hb dL_law_1022 rfl (lv_at hl 2 rfl) ?_
    refine lv_aload_n hx hb dL_law_1023 rfl (lv_at hl 0 rfl) ?_
    refine lv_iload hx hb dL_law_1024 (lv_at hl 4 rfl) ?_
    refine lv_iconst (v := 1) hx hb dL_law_1026 (by decide) ?_
    refine lv_iadd hx hb dL_law_1027 ?_
    refine va_sld hx hb hXs hbl hbA hW.2.2.2.1 h1 dL_law_1028 ?_
    refine lv_aload_n hx hb dL_law_1029 rfl (lv_at hl 0 rfl) ?_
    refine lv_iload hx hb dL_law_1030 (lv_at hl 4 rfl) ?_
    refine lv_iconst (v := 2) hx hb dL_law_1032 (by decide) ?_
    refine lv_iadd hx hb dL_law_1033 ?_
    refine va_sld hx hb hXs hbl hbA hW.2.2.2.1 h2 dL_law_1034 ?_
    have hW := Wd.toR hW
    refine wd_callV1 (As := [.int (xs (x4 + 1).toNatClampNeg), .int (xs (x4 + 2).toNatClampNeg)]) hC hW 0 wR_c0 rfl (c_X9_aim l D cy br _ n T (xs (x4 + 1).toNatClampNeg) (xs (x4 + 2).toNatClampNeg) (r, T') hrf) (cwV 2 hts (gl_V w_41_1 w_40_22 w_40_23 w_41_0 w_1_5) rfl rfl rfl (by decide +kernel) ⟨Nat.le_of_ble_eq_true rfl, Nat.le_of_ble_eq_true rfl⟩) rfl hl.1 rfl (Nat.le_of_ble_eq_true rfl) ⟨(show kc none oP i + 22 ≤ 601024 by have := kc_le (oF := none) (oP := oP) hi; omega), (show ks none oP i + 3306 ≤ 7293034 by have := ks_le (oF := none) (oP := oP) hi; omega)⟩ dL_law_1035 (fun H locs hW => ?_)
    have hW := Wd.ofR hW
    refine lv_icmp_eq (tgt := 1422) hx hb dL_law_1038 (by decide) (fun _ => ?_) (fun c9 => absurd rfl c9)
    refine W.widen (k := kc (some F') oP (i + 1)) (n := ks (some F') oP (i + 1)) kc_F ks_F ?_
    exact K (adU ad 59 81 qs) S' (some F') oP T' v _ _ _ hW hl hrel
set_option maxHeartbeats 4000000 in
set_option maxRecDepth 100000 in
theorem law_27 {p : Program} {l : Launch} {e : Env} {s : State} {m : MethodId} {below : List Frame} {meth : Method} {c : Code} {b L : Nat} {xs : Nat → Int32} {D : va_G} {cy : Nat → ClassId} {Q : State → Prop} {n : Nat} {Rel : St → Option St → Option St → St → Prop} {br : Nat → Nat} {o i : Nat} {x4 : Int32} (htr : l.stackTraces = false) (hX : LX p s m c b L xs) (HB : HB_27 n Rel) (hi : i ≤ 512) (h1 : vp_in (x4 + 1) L) (h2 : vp_in (x4 + 2) L) (h3 : vp_in (x4 + 3) L) (h4 : vp_in (x4 + 4) L) (K : LK p l e s m below meth c b D cy Q Rel br o i x4) {ad : Nat → Nat} {S : St} {oF oP : Option St} {T : St} {v : Nat → Int64} {H : Heap} {locs : List Loc} {ls : Array Slot} (hRel : Rel S oF oP T) (hW : Wd D cy (fun q => s.heap.size ≤ q) s (WLw ad br cy o S oF oP T v) H locs) (hl : lv_has ls 8 [(0, .ref b), (1, .ref (ad 0)), (2, .ref (br 0)), (3, .ref o), (4, .int x4)]) : W p l e room_1 s m #[Value.ref b] below meth c H locs (kc oF oP i) (ks oF oP i) Q (F0 m 1043 ls []) := by
  obtain ⟨hC, hXs, hbl, hE, hZ⟩ := hX
  have hx := hC.1
  have hb := hC.2.1
  have hts := hC.2.2.2.2
  have hbA : ¬ (fun q : Nat => s.heap.size ≤ q) b := Nat.not_le.mpr hbl
  refine lv_aload_n hx hb dL_law_1043 rfl (lv_at hl 1 rfl) ?_
  refine lv_aload_n hx hb dL_law_1044 rfl (lv_at hl 0 rfl) ?_
  refine lv_iload hx hb dL_law_1045 (lv_at hl 4 rfl) ?_
  refine lv_iconst (v := 1) hx hb dL_law_1047 (by decide) ?_
  refine lv_iadd hx hb dL_law_1048 ?_
  refine va_sld hx hb hXs hbl hbA hW.2.2.2.1 h1 dL_law_1049 ?_
  refine lv_aload_n hx hb dL_law_1050 rfl (lv_at hl 0 rfl) ?_
  refine lv_iload hx hb dL_law_1051 (lv_at hl 4 rfl) ?_
  refine lv_iconst (v := 2) hx hb dL_law_1053 (by decide) ?_
  refine lv_iadd hx hb dL_law_1054 ?_
  refine va_sld hx hb hXs hbl hbA hW.2.2.2.1 h2 dL_law_1055 ?_
  obtain ⟨r, S', oF', T', hcl, hrf, hrel⟩ := HB S oF oP T (xs (x4 + 1).toNatClampNeg) (xs (x4 + 2).toNatClampNeg) hRel
  rcases hcl with ⟨F, F', rfl, rfl, hc⟩ | ⟨rfl, rfl, hc⟩ | ⟨F', rfl, rfl, hc⟩
  · refine wd_callV1 (As := [.int (xs (x4 + 1).toNatClampNeg), .int (xs (x4 + 2).toNatClampNeg)]) hC hW 0 wC_c0 rfl (c_X8_against l D cy ad _ n S F (xs (x4 + 1).toNatClampNeg) (xs (x4 + 2).toNatClampNeg) (r, S', F') hc) (cwV 2 hts (gl_V w_41_5 w_41_2 w_41_3 w_41_4 w_1_2) rfl rfl rfl (by decide +kernel) ⟨Nat.le_of_ble_eq_true rfl, Nat.le_of_ble_eq_true rfl⟩) rfl hl.1 rfl (Nat.le_of_ble_eq_true rfl) ⟨(show kc (some F) oP i ≤ 601024 by have := kc_le (oF := (some F)) (oP := oP) hi; omega), (show ks (some F) oP i ≤ 7293034 by have := ks_le (oF := (some F)) (oP := oP) hi; omega)⟩ dL_law_1056 (fun H locs hW => ?_)
    have hW : Wd D cy (fun q => s.heap.size ≤ q) s (WLw ad br cy o S' (some F') oP T v) H locs := hW
    refine lv_aload_n hx hb dL_law_1059 rfl (lv_at hl 2 rfl) ?_
    refine lv_aload_n hx hb dL_law_1060 rfl (lv_at hl 0 rfl) ?_
    refine lv_iload hx hb dL_law_1061 (lv_at hl 4 rfl) ?_
    refine lv_iconst (v := 1) hx hb dL_law_1063 (by decide) ?_
    refine lv_iadd hx hb dL_law_1064 ?_
    refine va_sld hx hb hXs hbl hbA hW.2.2.2.1 h1 dL_law_1065 ?_
    refine lv_aload_n hx hb dL_law_1066 rfl (lv_at hl 0 rfl) ?_
    refine lv_iload hx hb dL_law_1067 (lv_at hl 4 rfl) ?_
    refine lv_iconst (v := 2) hx hb dL_law_1069 (by decide) ?_
    refine lv_iadd hx hb dL_law_1070 ?_
    refine va_sld hx hb hXs hbl hbA hW.2.2.2.1 h2 dL_law_1071 ?_
    have hW := Wd.toR hW
    refine wd_callV1 (As := [.int (xs (x4 + 1).toNatClampNeg), .int (xs (x4 + 2).toNatClampNeg)]) hC hW 0 wR_c0 rfl (c_X9_against l D cy br _ n T (xs (x4 + 1).toNatClampNeg) (xs (x4 + 2).toNatClampNeg) (r, T') hrf) (cwV 2 hts (gl_V w_41_9 w_41_6 w_41_7 w_41_8 w_1_5) rfl rfl rfl (by decide +kernel) ⟨Nat.le_of_ble_eq_true rfl, Nat.le_of_ble_eq_true rfl⟩) rfl hl.1 rfl (Nat.le_of_ble_eq_true rfl) ⟨(show kc (some F) oP i ≤ 601024 by have := kc_le (oF := (some F)) (oP := oP) hi; omega), (show ks (some F) oP i ≤ 7293034 by have := ks_le (oF := (some F)) (oP := oP) hi; omega)⟩ dL_law_1072 (fun H locs hW => ?_)
    have hW := Wd.ofR hW
    refine lv_icmp_eq (tgt := 1422) hx hb dL_law_1075 (by decide) (fun _ => ?_) (fun c9 => absurd rfl c9)
    refine W.widen (k := kc (some F') oP (i + 1)) (n := ks (some F') oP (i + 1)) (by have := kc_s (oF := (some F)) (oP := oP) (i := i); simpa [kc] using this) (by have := ks_s (oF := (some F)) (oP := oP) (i := i); simpa [ks] using this) ?_
    exact K ad S' (some F') oP T' v _ _ _ hW hl hrel
  · refine wd_callV1 (As := [.int (xs (x4 + 1).toNatClampNeg), .int (xs (x4 + 2).toNatClampNeg)]) hC hW 0 wC_c0 rfl (c_X8_againstN l D cy ad _ n S (xs (x4 + 1).toNatClampNeg) (xs (x4 + 2).toNatClampNeg) (r, S') hc) (cwV 2 hts (gl_V w_41_5 w_41_2 w_41_3 w_41_4 w_1_2) rfl rfl rfl (by decide +kernel) ⟨Nat.le_of_ble_eq_true rfl, Nat.le_of_ble_eq_true rfl⟩) rfl hl.1 rfl (Nat.le_of_ble_eq_true rfl) ⟨(show kc none oP i ≤ 601024 by have := kc_le (oF := none) (oP := oP) hi; omega), (show ks none oP i ≤ 7293034 by have := ks_le (oF := none) (oP := oP) hi; omega)⟩ dL_law_1056 (fun H locs hW => ?_)
    have hW : Wd D cy (fun q => s.heap.size ≤ q) s (WLw ad br cy o S' none oP T v) H locs := hW
    refine lv_aload_n hx hb dL_law_1059 rfl (lv_at hl 2 rfl) ?_
    refine lv_aload_n hx hb dL_law_1060 rfl (lv_at hl 0 rfl) ?_
    refine lv_iload hx hb dL_law_1061 (lv_at hl 4 rfl) ?_
    refine lv_iconst (v := 1) hx hb dL_law_1063 (by decide) ?_
    refine lv_iadd hx hb dL_law_1064 ?_
    refine va_sld hx hb hXs hbl hbA hW.2.2.2.1 h1 dL_law_1065 ?_
    refine lv_aload_n hx hb dL_law_1066 rfl (lv_at hl 0 rfl) ?_
    refine lv_iload hx hb dL_law_1067 (lv_at hl 4 rfl) ?_
    refine lv_iconst (v := 2) hx hb dL_law_1069 (by decide) ?_
    refine lv_iadd hx hb dL_law_1070 ?_
    refine va_sld hx hb hXs hbl hbA hW.2.2.2.1 h2 dL_law_1071 ?_
    have hW := Wd.toR hW
    refine wd_callV1 (As := [.int (xs (x4 + 1).toNatClampNeg), .int (xs (x4 + 2).toNatClampNeg)]) hC hW 0 wR_c0 rfl (c_X9_against l D cy br _ n T (xs (x4 + 1).toNatClampNeg) (xs (x4 + 2).toNatClampNeg) (r, T') hrf) (cwV 2 hts (gl_V w_41_9 w_41_6 w_41_7 w_41_8 w_1_5) rfl rfl rfl (by decide +kernel) ⟨Nat.le_of_ble_eq_true rfl, Nat.le_of_ble_eq_true rfl⟩) rfl hl.1 rfl (Nat.le_of_ble_eq_true rfl) ⟨(show kc none oP i ≤ 601024 by have := kc_le (oF := none) (oP := oP) hi; omega), (show ks none oP i ≤ 7293034 by have := ks_le (oF := none) (oP := oP) hi; omega)⟩ dL_law_1072 (fun H locs hW => ?_)
    have hW := Wd.ofR hW
    refine lv_icmp_eq (tgt := 1422) hx hb dL_law_1075 (by decide) (fun _ => ?_) (fun c9 => absurd rfl c9)
    refine W.widen (k := kc none oP (i + 1)) (n := ks none oP (i + 1)) kc_s ks_s ?_
    exact K ad S' none oP T' v _ _ _ hW hl hrel
  · refine wa_callV (As := [.int (xs (x4 + 1).toNatClampNeg), .int (xs (x4 + 2).toNatClampNeg)]) hC hW 0 wC_c0 rfl (c_X8_againstB l D cy ad _ n S (xs (x4 + 1).toNatClampNeg) (xs (x4 + 2).toNatClampNeg) (r, S', some F') hc) (cwV 2 hts (gl_V w_41_5 w_41_2 w_41_3 w_41_4 w_1_2) rfl rfl rfl (by decide +kernel) ⟨Nat.le_of_ble_eq_true rfl, Nat.le_of_ble_eq_true rfl⟩) rfl hl.1 rfl (Nat.le_of_ble_eq_true rfl) ⟨(show kc none oP i + 22 ≤ 601024 by have := kc_le (oF := none) (oP := oP) hi; omega), (show ks none oP i + 3306 ≤ 7293034 by have := ks_le (oF := none) (oP := oP) hi; omega)⟩ dL_law_1056 (fun r9 w9 H locs hp hW => ?_)
    obtain ⟨rfl, hp⟩ := hp
    rcases hp with ⟨hp, -⟩ | ⟨f, qs, hp, rfl⟩
    · cases hp
    cases hp
    have hW : Wd D cy (fun q => s.heap.size ≤ q) s (WLw (adU ad 59 81 qs) br cy o S' (some F') oP T v) H locs := by
      exact hW.cast (by cases oP <;> rfl)
    have hl : lv_has ls 8 [(0, .ref b), (1, .ref (adU ad 59 81 qs 0)), (2, .ref (br 0)), (3, .ref o), (4, .int x4)] := hl
    refine W.eq (g2 := F0 m 1059 ls [.int r]) rfl ?_
    refine lv_aload_n hx hb dL_law_1059 rfl (lv_at hl 2 rfl) ?_
    refine lv_aload_n hx hb dL_law_1060 rfl (lv_at hl 0 rfl) ?_
    refine lv_iload hx hb dL_law_1061 (lv_at hl 4 rfl) ?_
    refine lv_iconst (v := 1) hx hb dL_law_1063 (by decide) ?_
    refine lv_iadd hx hb dL_law_1064 ?_
    refine va_sld hx hb hXs hbl hbA hW.2.2.2.1 h1 dL_law_1065 ?_
    refine lv_aload_n hx hb dL_law_1066 rfl (lv_at hl 0 rfl) ?_
    refine lv_iload hx hb dL_law_1067 (lv_at hl 4 rfl) ?_
    refine lv_iconst (v := 2) hx hb dL_law_1069 (by decide) ?_
    refine lv_iadd hx hb dL_law_1070 ?_
    refine va_sld hx hb hXs hbl hbA hW.2.2.2.1 h2 dL_law_1071 ?_
    have hW := Wd.toR hW
    refine wd_callV1 (As := [.int (xs (x4 + 1).toNatClampNeg), .int (xs (x4 + 2).toNatClampNeg)]) hC hW 0 wR_c0 rfl (c_X9_against l D cy br _ n T (xs (x4 + 1).toNatClampNeg) (xs (x4 + 2).toNatClampNeg) (r, T') hrf) (cwV 2 hts (gl_V w_41_9 w_41_6 w_41_7 w_41_8 w_1_5) rfl rfl rfl (by decide +kernel) ⟨Nat.le_of_ble_eq_true rfl, Nat.le_of_ble_eq_true rfl⟩) rfl hl.1 rfl (Nat.le_of_ble_eq_true rfl) ⟨(show kc none oP i + 22 ≤ 601024 by have := kc_le (oF := none) (oP := oP) hi; omega), (show ks none oP i + 3306 ≤ 7293034 by have := ks_le (oF := none) (oP := oP) hi; omega)⟩ dL_law_1072 (fun H locs hW => ?_)
    have hW := Wd.ofR hW
    refine lv_icmp_eq (tgt := 1422) hx hb dL_law_1075 (by decide) (fun _ => ?_) (fun c9 => absurd rfl c9)
    refine W.widen (k := kc (some F') oP (i + 1)) (n := ks (some F') oP (i + 1)) kc_F ks_F ?_
    exact K (adU ad 59 81 qs) S' (some F') oP T' v _ _ _ hW hl hrel
set_option maxHeartbeats 4000000 in
set_option maxRecDepth 100000 in
theorem law_28 {p : Program} {l : Launch} {e : Env} {s : State} {m : MethodId} {below : List Frame} {meth : Method} {c : Code} {b L : Nat} {xs : Nat → Int32} {D : va_G} {cy : Nat → ClassId} {Q : State → Prop} {n : Nat} {Rel : St → Option St → Option St → St → Prop} {br : Nat → Nat} {o i : Nat} {x4 : Int32} (htr : l.stackTraces = false) (hX : LX p s m c b L xs) (HB : HB_28 n Rel) (hi : i ≤ 512) (h1 : vp_in (x4 + 1) L) (h2 : vp_in (x4 + 2) L) (h3 : vp_in (x4 + 3) L) (h4 : vp_in (x4 + 4) L) (K : LK p l e s m below meth c b D cy Q Rel br o i x4) {ad : Nat → Nat} {S : St} {oF oP : Option St} {T : St} {v : Nat → Int64} {H : Heap} {locs : List Loc} {ls : Array Slot} (hRel : Rel S oF oP T) (hW : Wd D cy (fun q => s.heap.size ≤ q) s (WLw ad br cy o S oF oP T v) H locs) (hl : lv_has ls 8 [(0, .ref b), (1, .ref (ad 0)), (2, .ref (br 0)), (3, .ref o), (4, .int x4)]) : W p l e room_1 s m #[Value.ref b] below meth c H locs (kc oF oP i) (ks oF oP i) Q (F0 m 1080 ls []) := by
  obtain ⟨hC, hXs, hbl, hE, hZ⟩ := hX
  have hx := hC.1
  have hb := hC.2.1
  have hts := hC.2.2.2.2
  have hbA : ¬ (fun q : Nat => s.heap.size ≤ q) b := Nat.not_le.mpr hbl
  refine lv_aload_n hx hb dL_law_1080 rfl (lv_at hl 1 rfl) ?_
  refine lv_aload_n hx hb dL_law_1081 rfl (lv_at hl 0 rfl) ?_
  refine lv_iload hx hb dL_law_1082 (lv_at hl 4 rfl) ?_
  refine lv_iconst (v := 1) hx hb dL_law_1084 (by decide) ?_
  refine lv_iadd hx hb dL_law_1085 ?_
  refine va_sld hx hb hXs hbl hbA hW.2.2.2.1 h1 dL_law_1086 ?_
  obtain ⟨r, S', oF', T', hcl, hrf, hrel⟩ := HB S oF oP T (xs (x4 + 1).toNatClampNeg) hRel
  rcases hcl with ⟨F, F', rfl, rfl, hc⟩ | ⟨rfl, rfl, hc⟩ | ⟨F', rfl, rfl, hc⟩
  · refine wd_callV1 (As := [.int (xs (x4 + 1).toNatClampNeg)]) hC hW 0 wC_c0 rfl (c_X8_gold l D cy ad _ n S F (xs (x4 + 1).toNatClampNeg) (r, S', F') hc) (cwV 1 hts (gl_V w_41_13 w_41_10 w_41_11 w_41_12 w_1_2) rfl rfl rfl (by decide +kernel) ⟨Nat.le_of_ble_eq_true rfl, Nat.le_of_ble_eq_true rfl⟩) rfl hl.1 rfl (Nat.le_of_ble_eq_true rfl) ⟨(show kc (some F) oP i ≤ 601024 by have := kc_le (oF := (some F)) (oP := oP) hi; omega), (show ks (some F) oP i ≤ 7293034 by have := ks_le (oF := (some F)) (oP := oP) hi; omega)⟩ dL_law_1087 (fun H locs hW => ?_)
    have hW : Wd D cy (fun q => s.heap.size ≤ q) s (WLw ad br cy o S' (some F') oP T v) H locs := hW
    refine lv_aload_n hx hb dL_law_1090 rfl (lv_at hl 2 rfl) ?_
    refine lv_aload_n hx hb dL_law_1091 rfl (lv_at hl 0 rfl) ?_
    refine lv_iload hx hb dL_law_1092 (lv_at hl 4 rfl) ?_
    refine lv_iconst (v := 1) hx hb dL_law_1094 (by decide) ?_
    refine lv_iadd hx hb dL_law_1095 ?_
    refine va_sld hx hb hXs hbl hbA hW.2.2.2.1 h1 dL_law_1096 ?_
    have hW := Wd.toR hW
    refine wd_callV1 (As := [.int (xs (x4 + 1).toNatClampNeg)]) hC hW 0 wR_c0 rfl (c_X9_gold l D cy br _ n T (xs (x4 + 1).toNatClampNeg) (r, T') hrf) (cwV 1 hts (gl_V w_41_21 w_41_18 w_41_19 w_41_20 w_1_5) rfl rfl rfl (by decide +kernel) ⟨Nat.le_of_ble_eq_true rfl, Nat.le_of_ble_eq_true rfl⟩) rfl hl.1 rfl (Nat.le_of_ble_eq_true rfl) ⟨(show kc (some F) oP i ≤ 601024 by have := kc_le (oF := (some F)) (oP := oP) hi; omega), (show ks (some F) oP i ≤ 7293034 by have := ks_le (oF := (some F)) (oP := oP) hi; omega)⟩ dL_law_1097 (fun H locs hW => ?_)
    have hW := Wd.ofR hW
    refine lv_icmp_eq (tgt := 1422) hx hb dL_law_1100 (by decide) (fun _ => ?_) (fun c9 => absurd rfl c9)
    refine W.widen (k := kc (some F') oP (i + 1)) (n := ks (some F') oP (i + 1)) (by have := kc_s (oF := (some F)) (oP := oP) (i := i); simpa [kc] using this) (by have := ks_s (oF := (some F)) (oP := oP) (i := i); simpa [ks] using this) ?_
    exact K ad S' (some F') oP T' v _ _ _ hW hl hrel
  · refine wd_callV1 (As := [.int (xs (x4 + 1).toNatClampNeg)]) hC hW 0 wC_c0 rfl (c_X8_goldN l D cy ad _ n S (xs (x4 + 1).toNatClampNeg) (r, S') hc) (cwV 1 hts (gl_V w_41_13 w_41_10 w_41_11 w_41_12 w_1_2) rfl rfl rfl (by decide +kernel) ⟨Nat.le_of_ble_eq_true rfl, Nat.le_of_ble_eq_true rfl⟩) rfl hl.1 rfl (Nat.le_of_ble_eq_true rfl) ⟨(show kc none oP i ≤ 601024 by have := kc_le (oF := none) (oP := oP) hi; omega), (show ks none oP i ≤ 7293034 by have := ks_le (oF := none) (oP := oP) hi; omega)⟩ dL_law_1087 (fun H locs hW => ?_)
    have hW : Wd D cy (fun q => s.heap.size ≤ q) s (WLw ad br cy o S' none oP T v) H locs := hW
    refine lv_aload_n hx hb dL_law_1090 rfl (lv_at hl 2 rfl) ?_
    refine lv_aload_n hx hb dL_law_1091 rfl (lv_at hl 0 rfl) ?_
    refine lv_iload hx hb dL_law_1092 (lv_at hl 4 rfl) ?_
    refine lv_iconst (v := 1) hx hb dL_law_1094 (by decide) ?_
    refine lv_iadd hx hb dL_law_1095 ?_
    refine va_sld hx hb hXs hbl hbA hW.2.2.2.1 h1 dL_law_1096 ?_
    have hW := Wd.toR hW
    refine wd_callV1 (As := [.int (xs (x4 + 1).toNatClampNeg)]) hC hW 0 wR_c0 rfl (c_X9_gold l D cy br _ n T (xs (x4 + 1).toNatClampNeg) (r, T') hrf) (cwV 1 hts (gl_V w_41_21 w_41_18 w_41_19 w_41_20 w_1_5) rfl rfl rfl (by decide +kernel) ⟨Nat.le_of_ble_eq_true rfl, Nat.le_of_ble_eq_true rfl⟩) rfl hl.1 rfl (Nat.le_of_ble_eq_true rfl) ⟨(show kc none oP i ≤ 601024 by have := kc_le (oF := none) (oP := oP) hi; omega), (show ks none oP i ≤ 7293034 by have := ks_le (oF := none) (oP := oP) hi; omega)⟩ dL_law_1097 (fun H locs hW => ?_)
    have hW := Wd.ofR hW
    refine lv_icmp_eq (tgt := 1422) hx hb dL_law_1100 (by decide) (fun _ => ?_) (fun c9 => absurd rfl c9)
    refine W.widen (k := kc none oP (i + 1)) (n := ks none oP (i + 1)) kc_s ks_s ?_
    exact K ad S' none oP T' v _ _ _ hW hl hrel
  · refine wa_callV (As := [.int (xs (x4 + 1).toNatClampNeg)]) hC hW 0 wC_c0 rfl (c_X8_goldB l D cy ad _ n S (xs (x4 + 1).toNatClampNeg) (r, S', some F') hc) (cwV 1 hts (gl_V w_41_13 w_41_10 w_41_11 w_41_12 w_1_2) rfl rfl rfl (by decide +kernel) ⟨Nat.le_of_ble_eq_true rfl, Nat.le_of_ble_eq_true rfl⟩) rfl hl.1 rfl (Nat.le_of_ble_eq_true rfl) ⟨(show kc none oP i + 22 ≤ 601024 by have := kc_le (oF := none) (oP := oP) hi; omega), (show ks none oP i + 3306 ≤ 7293034 by have := ks_le (oF := none) (oP := oP) hi; omega)⟩ dL_law_1087 (fun r9 w9 H locs hp hW => ?_)
    obtain ⟨rfl, hp⟩ := hp
    rcases hp with ⟨hp, -⟩ | ⟨f, qs, hp, rfl⟩
    · cases hp
    cases hp
    have hW : Wd D cy (fun q => s.heap.size ≤ q) s (WLw (adU ad 59 81 qs) br cy o S' (some F') oP T v) H locs := by
      exact hW.cast (by cases oP <;> rfl)
    have hl : lv_has ls 8 [(0, .ref b), (1, .ref (adU ad 59 81 qs 0)), (2, .ref (br 0)), (3, .ref o), (4, .int x4)] := hl
    refine W.eq (g2 := F0 m 1090 ls [.int r]) rfl ?_
    refine lv_aload_n hx hb dL_law_1090 rfl (lv_at hl 2 rfl) ?_
    refine lv_aload_n hx hb dL_law_1091 rfl (lv_at hl 0 rfl) ?_
    refine lv_iload hx hb dL_law_1092 (lv_at hl 4 rfl) ?_
    refine lv_iconst (v := 1) hx hb dL_law_1094 (by decide) ?_
    refine lv_iadd hx hb dL_law_1095 ?_
    refine va_sld hx hb hXs hbl hbA hW.2.2.2.1 h1 dL_law_1096 ?_
    have hW := Wd.toR hW
    refine wd_callV1 (As := [.int (xs (x4 + 1).toNatClampNeg)]) hC hW 0 wR_c0 rfl (c_X9_gold l D cy br _ n T (xs (x4 + 1).toNatClampNeg) (r, T') hrf) (cwV 1 hts (gl_V w_41_21 w_41_18 w_41_19 w_41_20 w_1_5) rfl rfl rfl (by decide +kernel) ⟨Nat.le_of_ble_eq_true rfl, Nat.le_of_ble_eq_true rfl⟩) rfl hl.1 rfl (Nat.le_of_ble_eq_true rfl) ⟨(show kc none oP i + 22 ≤ 601024 by have := kc_le (oF := none) (oP := oP) hi; omega), (show ks none oP i + 3306 ≤ 7293034 by have := ks_le (oF := none) (oP := oP) hi; omega)⟩ dL_law_1097 (fun H locs hW => ?_)
    have hW := Wd.ofR hW
    refine lv_icmp_eq (tgt := 1422) hx hb dL_law_1100 (by decide) (fun _ => ?_) (fun c9 => absurd rfl c9)
    refine W.widen (k := kc (some F') oP (i + 1)) (n := ks (some F') oP (i + 1)) kc_F ks_F ?_
    exact K (adU ad 59 81 qs) S' (some F') oP T' v _ _ _ hW hl hrel
set_option maxHeartbeats 4000000 in
set_option maxRecDepth 100000 in
theorem law_29 {p : Program} {l : Launch} {e : Env} {s : State} {m : MethodId} {below : List Frame} {meth : Method} {c : Code} {b L : Nat} {xs : Nat → Int32} {D : va_G} {cy : Nat → ClassId} {Q : State → Prop} {n : Nat} {Rel : St → Option St → Option St → St → Prop} {br : Nat → Nat} {o i : Nat} {x4 : Int32} (htr : l.stackTraces = false) (hX : LX p s m c b L xs) (HB : HB_29 n Rel) (hi : i ≤ 512) (h1 : vp_in (x4 + 1) L) (h2 : vp_in (x4 + 2) L) (h3 : vp_in (x4 + 3) L) (h4 : vp_in (x4 + 4) L) (K : LK p l e s m below meth c b D cy Q Rel br o i x4) {ad : Nat → Nat} {S : St} {oF oP : Option St} {T : St} {v : Nat → Int64} {H : Heap} {locs : List Loc} {ls : Array Slot} (hRel : Rel S oF oP T) (hW : Wd D cy (fun q => s.heap.size ≤ q) s (WLw ad br cy o S oF oP T v) H locs) (hl : lv_has ls 8 [(0, .ref b), (1, .ref (ad 0)), (2, .ref (br 0)), (3, .ref o), (4, .int x4)]) : W p l e room_1 s m #[Value.ref b] below meth c H locs (kc oF oP i) (ks oF oP i) Q (F0 m 1105 ls []) := by
  obtain ⟨hC, hXs, hbl, hE, hZ⟩ := hX
  have hx := hC.1
  have hb := hC.2.1
  have hts := hC.2.2.2.2
  have hbA : ¬ (fun q : Nat => s.heap.size ≤ q) b := Nat.not_le.mpr hbl
  by_cases c0 : (xs (x4 + 3).toNatClampNeg) = 0
  · refine lv_aload_n hx hb dL_law_1105 rfl (lv_at hl 1 rfl) ?_
    refine lv_aload_n hx hb dL_law_1106 rfl (lv_at hl 0 rfl) ?_
    refine lv_iload hx hb dL_law_1107 (lv_at hl 4 rfl) ?_
    refine lv_iconst (v := 1) hx hb dL_law_1109 (by decide) ?_
    refine lv_iadd hx hb dL_law_1110 ?_
    refine va_sld hx hb hXs hbl hbA hW.2.2.2.1 h1 dL_law_1111 ?_
    refine lv_aload_n hx hb dL_law_1112 rfl (lv_at hl 0 rfl) ?_
    refine lv_iload hx hb dL_law_1113 (lv_at hl 4 rfl) ?_
    refine lv_iconst (v := 2) hx hb dL_law_1115 (by decide) ?_
    refine lv_iadd hx hb dL_law_1116 ?_
    refine va_sld hx hb hXs hbl hbA hW.2.2.2.1 h2 dL_law_1117 ?_
    refine lv_aload_n hx hb dL_law_1118 rfl (lv_at hl 0 rfl) ?_
    refine lv_iload hx hb dL_law_1119 (lv_at hl 4 rfl) ?_
    refine lv_iconst (v := 3) hx hb dL_law_1121 (by decide) ?_
    refine lv_iadd hx hb dL_law_1122 ?_
    refine va_sld hx hb hXs hbl hbA hW.2.2.2.1 h3 dL_law_1123 ?_
    refine lv_if_eq (tgt := 1131) hx hb dL_law_1124 (by decide) (fun _ => ?_) (fun c9 => absurd c0 c9)
    refine lv_iconst (v := 0) hx hb dL_law_1131 (by decide) ?_
    obtain ⟨r, S', oF', T', hcl, hrf, hrel⟩ := HB S oF oP T (xs (x4 + 1).toNatClampNeg) (xs (x4 + 2).toNatClampNeg) 0 hRel (Or.inl rfl)
    rcases hcl with ⟨F, F', rfl, rfl, hc⟩ | ⟨rfl, rfl, hc⟩ | ⟨F', rfl, rfl, hc⟩
    · refine wd_callV1 (As := [.int (xs (x4 + 1).toNatClampNeg), .int (xs (x4 + 2).toNatClampNeg), .int 0]) hC hW 0 wC_c0 rfl (c_X8_line l D cy ad _ n S F (xs (x4 + 1).toNatClampNeg) (xs (x4 + 2).toNatClampNeg) 0 (r, S', F') hc) (cwV 3 hts (gl_V w_42_1 w_41_22 w_41_23 w_42_0 w_1_2) rfl rfl rfl (by decide +kernel) ⟨Nat.le_of_ble_eq_true rfl, Nat.le_of_ble_eq_true rfl⟩) rfl hl.1 rfl (Nat.le_of_ble_eq_true rfl) ⟨(show kc (some F) oP i ≤ 601024 by have := kc_le (oF := (some F)) (oP := oP) hi; omega), (show ks (some F) oP i ≤ 7293034 by have := ks_le (oF := (some F)) (oP := oP) hi; omega)⟩ dL_law_1132 (fun H locs hW => ?_)
      have hW : Wd D cy (fun q => s.heap.size ≤ q) s (WLw ad br cy o S' (some F') oP T v) H locs := hW
      refine lv_aload_n hx hb dL_law_1135 rfl (lv_at hl 2 rfl) ?_
      refine lv_aload_n hx hb dL_law_1136 rfl (lv_at hl 0 rfl) ?_
      refine lv_iload hx hb dL_law_1137 (lv_at hl 4 rfl) ?_
      refine lv_iconst (v := 1) hx hb dL_law_1139 (by decide) ?_
      refine lv_iadd hx hb dL_law_1140 ?_
      refine va_sld hx hb hXs hbl hbA hW.2.2.2.1 h1 dL_law_1141 ?_
      refine lv_aload_n hx hb dL_law_1142 rfl (lv_at hl 0 rfl) ?_
      refine lv_iload hx hb dL_law_1143 (lv_at hl 4 rfl) ?_
      refine lv_iconst (v := 2) hx hb dL_law_1145 (by decide) ?_
      refine lv_iadd hx hb dL_law_1146 ?_
      refine va_sld hx hb hXs hbl hbA hW.2.2.2.1 h2 dL_law_1147 ?_
      refine lv_aload_n hx hb dL_law_1148 rfl (lv_at hl 0 rfl) ?_
      refine lv_iload hx hb dL_law_1149 (lv_at hl 4 rfl) ?_
      refine lv_iconst (v := 3) hx hb dL_law_1151 (by decide) ?_
      refine lv_iadd hx hb dL_law_1152 ?_
      refine va_sld hx hb hXs hbl hbA hW.2.2.2.1 h3 dL_law_1153 ?_
      refine lv_if_eq (tgt := 1161) hx hb dL_law_1154 (by decide) (fun _ => ?_) (fun c9 => absurd c0 c9)
      refine lv_iconst (v := 0) hx hb dL_law_1161 (by decide) ?_
      have hW := Wd.toR hW
      refine wd_callV1 (As := [.int (xs (x4 + 1).toNatClampNeg), .int (xs (x4 + 2).toNatClampNeg), .int 0]) hC hW 0 wR_c0 rfl (c_X9_line l D cy br _ n T (xs (x4 + 1).toNatClampNeg) (xs (x4 + 2).toNatClampNeg) 0 (r, T') hrf) (cwV 3 hts (gl_V w_42_9 w_42_6 w_42_7 w_42_8 w_1_5) rfl rfl rfl (by decide +kernel) ⟨Nat.le_of_ble_eq_true rfl, Nat.le_of_ble_eq_true rfl⟩) rfl hl.1 rfl (Nat.le_of_ble_eq_true rfl) ⟨(show kc (some F) oP i ≤ 601024 by have := kc_le (oF := (some F)) (oP := oP) hi; omega), (show ks (some F) oP i ≤ 7293034 by have := ks_le (oF := (some F)) (oP := oP) hi; omega)⟩ dL_law_1162 (fun H locs hW => ?_)
      have hW := Wd.ofR hW
      refine lv_icmp_eq (tgt := 1422) hx hb dL_law_1165 (by decide) (fun _ => ?_) (fun c9 => absurd rfl c9)
      refine W.widen (k := kc (some F') oP (i + 1)) (n := ks (some F') oP (i + 1)) (by have := kc_s (oF := (some F)) (oP := oP) (i := i); simpa [kc] using this) (by have := ks_s (oF := (some F)) (oP := oP) (i := i); simpa [ks] using this) ?_
      exact K ad S' (some F') oP T' v _ _ _ hW hl hrel
    · refine wd_callV1 (As := [.int (xs (x4 + 1).toNatClampNeg), .int (xs (x4 + 2).toNatClampNeg), .int 0]) hC hW 0 wC_c0 rfl (c_X8_lineN l D cy ad _ n S (xs (x4 + 1).toNatClampNeg) (xs (x4 + 2).toNatClampNeg) 0 (r, S') hc) (cwV 3 hts (gl_V w_42_1 w_41_22 w_41_23 w_42_0 w_1_2) rfl rfl rfl (by decide +kernel) ⟨Nat.le_of_ble_eq_true rfl, Nat.le_of_ble_eq_true rfl⟩) rfl hl.1 rfl (Nat.le_of_ble_eq_true rfl) ⟨(show kc none oP i ≤ 601024 by have := kc_le (oF := none) (oP := oP) hi; omega), (show ks none oP i ≤ 7293034 by have := ks_le (oF := none) (oP := oP) hi; omega)⟩ dL_law_1132 (fun H locs hW => ?_)
      have hW : Wd D cy (fun q => s.heap.size ≤ q) s (WLw ad br cy o S' none oP T v) H locs := hW
      refine lv_aload_n hx hb dL_law_1135 rfl (lv_at hl 2 rfl) ?_
      refine lv_aload_n hx hb dL_law_1136 rfl (lv_at hl 0 rfl) ?_
      refine lv_iload hx hb dL_law_1137 (lv_at hl 4 rfl) ?_
      refine lv_iconst (v := 1) hx hb dL_law_1139 (by decide) ?_
      refine lv_iadd hx hb dL_law_1140 ?_
      refine va_sld hx hb hXs hbl hbA hW.2.2.2.1 h1 dL_law_1141 ?_
      refine lv_aload_n hx hb dL_law_1142 rfl (lv_at hl 0 rfl) ?_
      refine lv_iload hx hb dL_law_1143 (lv_at hl 4 rfl) ?_
      refine lv_iconst (v := 2) hx hb dL_law_1145 (by decide) ?_
      refine lv_iadd hx hb dL_law_1146 ?_
      refine va_sld hx hb hXs hbl hbA hW.2.2.2.1 h2 dL_law_1147 ?_
      refine lv_aload_n hx hb dL_law_1148 rfl (lv_at hl 0 rfl) ?_
      refine lv_iload hx hb dL_law_1149 (lv_at hl 4 rfl) ?_
      refine lv_iconst (v := 3) hx hb dL_law_1151 (by decide) ?_
      refine lv_iadd hx hb dL_law_1152 ?_
      refine va_sld hx hb hXs hbl hbA hW.2.2.2.1 h3 dL_law_1153 ?_
      refine lv_if_eq (tgt := 1161) hx hb dL_law_1154 (by decide) (fun _ => ?_) (fun c9 => absurd c0 c9)
      refine lv_iconst (v := 0) hx hb dL_law_1161 (by decide) ?_
      have hW := Wd.toR hW
      refine wd_callV1 (As := [.int (xs (x4 + 1).toNatClampNeg), .int (xs (x4 + 2).toNatClampNeg), .int 0]) hC hW 0 wR_c0 rfl (c_X9_line l D cy br _ n T (xs (x4 + 1).toNatClampNeg) (xs (x4 + 2).toNatClampNeg) 0 (r, T') hrf) (cwV 3 hts (gl_V w_42_9 w_42_6 w_42_7 w_42_8 w_1_5) rfl rfl rfl (by decide +kernel) ⟨Nat.le_of_ble_eq_true rfl, Nat.le_of_ble_eq_true rfl⟩) rfl hl.1 rfl (Nat.le_of_ble_eq_true rfl) ⟨(show kc none oP i ≤ 601024 by have := kc_le (oF := none) (oP := oP) hi; omega), (show ks none oP i ≤ 7293034 by have := ks_le (oF := none) (oP := oP) hi; omega)⟩ dL_law_1162 (fun H locs hW => ?_)
      have hW := Wd.ofR hW
      refine lv_icmp_eq (tgt := 1422) hx hb dL_law_1165 (by decide) (fun _ => ?_) (fun c9 => absurd rfl c9)
      refine W.widen (k := kc none oP (i + 1)) (n := ks none oP (i + 1)) kc_s ks_s ?_
      exact K ad S' none oP T' v _ _ _ hW hl hrel
    · refine wa_callV (As := [.int (xs (x4 + 1).toNatClampNeg), .int (xs (x4 + 2).toNatClampNeg), .int 0]) hC hW 0 wC_c0 rfl (c_X8_lineB l D cy ad _ n S (xs (x4 + 1).toNatClampNeg) (xs (x4 + 2).toNatClampNeg) 0 (r, S', some F') hc) (cwV 3 hts (gl_V w_42_1 w_41_22 w_41_23 w_42_0 w_1_2) rfl rfl rfl (by decide +kernel) ⟨Nat.le_of_ble_eq_true rfl, Nat.le_of_ble_eq_true rfl⟩) rfl hl.1 rfl (Nat.le_of_ble_eq_true rfl) ⟨(show kc none oP i + 22 ≤ 601024 by have := kc_le (oF := none) (oP := oP) hi; omega), (show ks none oP i + 3306 ≤ 7293034 by have := ks_le (oF := none) (oP := oP) hi; omega)⟩ dL_law_1132 (fun r9 w9 H locs hp hW => ?_)
      obtain ⟨rfl, hp⟩ := hp
      rcases hp with ⟨hp, -⟩ | ⟨f, qs, hp, rfl⟩
      · cases hp
      cases hp
      have hW : Wd D cy (fun q => s.heap.size ≤ q) s (WLw (adU ad 59 81 qs) br cy o S' (some F') oP T v) H locs := by
        exact hW.cast (by cases oP <;> rfl)
      have hl : lv_has ls 8 [(0, .ref b), (1, .ref (adU ad 59 81 qs 0)), (2, .ref (br 0)), (3, .ref o), (4, .int x4)] := hl
      refine W.eq (g2 := F0 m 1135 ls [.int r]) rfl ?_
      refine lv_aload_n hx hb dL_law_1135 rfl (lv_at hl 2 rfl) ?_
      refine lv_aload_n hx hb dL_law_1136 rfl (lv_at hl 0 rfl) ?_
      refine lv_iload hx hb dL_law_1137 (lv_at hl 4 rfl) ?_
      refine lv_iconst (v := 1) hx hb dL_law_1139 (by decide) ?_
      refine lv_iadd hx hb dL_law_1140 ?_
      refine va_sld hx hb hXs hbl hbA hW.2.2.2.1 h1 dL_law_1141 ?_
      refine lv_aload_n hx hb dL_law_1142 rfl (lv_at hl 0 rfl) ?_
      refine lv_iload hx hb dL_law_1143 (lv_at hl 4 rfl) ?_
      refine lv_iconst (v := 2) hx hb dL_law_1145 (by decide) ?_
      refine lv_iadd hx hb dL_law_1146 ?_
      refine va_sld hx hb hXs hbl hbA hW.2.2.2.1 h2 dL_law_1147 ?_
      refine lv_aload_n hx hb dL_law_1148 rfl (lv_at hl 0 rfl) ?_
      refine lv_iload hx hb dL_law_1149 (lv_at hl 4 rfl) ?_
      refine lv_iconst (v := 3) hx hb dL_law_1151 (by decide) ?_
      refine lv_iadd hx hb dL_law_1152 ?_
      refine va_sld hx hb hXs hbl hbA hW.2.2.2.1 h3 dL_law_1153 ?_
      refine lv_if_eq (tgt := 1161) hx hb dL_law_1154 (by decide) (fun _ => ?_) (fun c9 => absurd c0 c9)
      refine lv_iconst (v := 0) hx hb dL_law_1161 (by decide) ?_
      have hW := Wd.toR hW
      refine wd_callV1 (As := [.int (xs (x4 + 1).toNatClampNeg), .int (xs (x4 + 2).toNatClampNeg), .int 0]) hC hW 0 wR_c0 rfl (c_X9_line l D cy br _ n T (xs (x4 + 1).toNatClampNeg) (xs (x4 + 2).toNatClampNeg) 0 (r, T') hrf) (cwV 3 hts (gl_V w_42_9 w_42_6 w_42_7 w_42_8 w_1_5) rfl rfl rfl (by decide +kernel) ⟨Nat.le_of_ble_eq_true rfl, Nat.le_of_ble_eq_true rfl⟩) rfl hl.1 rfl (Nat.le_of_ble_eq_true rfl) ⟨(show kc none oP i + 22 ≤ 601024 by have := kc_le (oF := none) (oP := oP) hi; omega), (show ks none oP i + 3306 ≤ 7293034 by have := ks_le (oF := none) (oP := oP) hi; omega)⟩ dL_law_1162 (fun H locs hW => ?_)
      have hW := Wd.ofR hW
      refine lv_icmp_eq (tgt := 1422) hx hb dL_law_1165 (by decide) (fun _ => ?_) (fun c9 => absurd rfl c9)
      refine W.widen (k := kc (some F') oP (i + 1)) (n := ks (some F') oP (i + 1)) kc_F ks_F ?_
      exact K (adU ad 59 81 qs) S' (some F') oP T' v _ _ _ hW hl hrel
  · refine lv_aload_n hx hb dL_law_1105 rfl (lv_at hl 1 rfl) ?_
    refine lv_aload_n hx hb dL_law_1106 rfl (lv_at hl 0 rfl) ?_
    refine lv_iload hx hb dL_law_1107 (lv_at hl 4 rfl) ?_
    refine lv_iconst (v := 1) hx hb dL_law_1109 (by decide) ?_
    refine lv_iadd hx hb dL_law_1110 ?_
    refine va_sld hx hb hXs hbl hbA hW.2.2.2.1 h1 dL_law_1111 ?_
    refine lv_aload_n hx hb dL_law_1112 rfl (lv_at hl 0 rfl) ?_
    refine lv_iload hx hb dL_law_1113 (lv_at hl 4 rfl) ?_
    refine lv_iconst (v := 2) hx hb dL_law_1115 (by decide) ?_
    refine lv_iadd hx hb dL_law_1116 ?_
    refine va_sld hx hb hXs hbl hbA hW.2.2.2.1 h2 dL_law_1117 ?_
    refine lv_aload_n hx hb dL_law_1118 rfl (lv_at hl 0 rfl) ?_
    refine lv_iload hx hb dL_law_1119 (lv_at hl 4 rfl) ?_
    refine lv_iconst (v := 3) hx hb dL_law_1121 (by decide) ?_
    refine lv_iadd hx hb dL_law_1122 ?_
    refine va_sld hx hb hXs hbl hbA hW.2.2.2.1 h3 dL_law_1123 ?_
    refine lv_if_eq (tgt := 1131) hx hb dL_law_1124 (by decide) (fun c9 => absurd c9 c0) (fun _ => ?_)
    refine lv_iconst (v := 1) hx hb dL_law_1127 (by decide) ?_
    refine lv_goto (tgt := 1132) hx hb dL_law_1128 (by decide) ?_
    obtain ⟨r, S', oF', T', hcl, hrf, hrel⟩ := HB S oF oP T (xs (x4 + 1).toNatClampNeg) (xs (x4 + 2).toNatClampNeg) 1 hRel (Or.inr rfl)
    rcases hcl with ⟨F, F', rfl, rfl, hc⟩ | ⟨rfl, rfl, hc⟩ | ⟨F', rfl, rfl, hc⟩
    · refine wd_callV1 (As := [.int (xs (x4 + 1).toNatClampNeg), .int (xs (x4 + 2).toNatClampNeg), .int 1]) hC hW 0 wC_c0 rfl (c_X8_line l D cy ad _ n S F (xs (x4 + 1).toNatClampNeg) (xs (x4 + 2).toNatClampNeg) 1 (r, S', F') hc) (cwV 3 hts (gl_V w_42_1 w_41_22 w_41_23 w_42_0 w_1_2) rfl rfl rfl (by decide +kernel) ⟨Nat.le_of_ble_eq_true rfl, Nat.le_of_ble_eq_true rfl⟩) rfl hl.1 rfl (Nat.le_of_ble_eq_true rfl) ⟨(show kc (some F) oP i ≤ 601024 by have := kc_le (oF := (some F)) (oP := oP) hi; omega), (show ks (some F) oP i ≤ 7293034 by have := ks_le (oF := (some F)) (oP := oP) hi; omega)⟩ dL_law_1132 (fun H locs hW => ?_)
      have hW : Wd D cy (fun q => s.heap.size ≤ q) s (WLw ad br cy o S' (some F') oP T v) H locs := hW
      refine lv_aload_n hx hb dL_law_1135 rfl (lv_at hl 2 rfl) ?_
      refine lv_aload_n hx hb dL_law_1136 rfl (lv_at hl 0 rfl) ?_
      refine lv_iload hx hb dL_law_1137 (lv_at hl 4 rfl) ?_
      refine lv_iconst (v := 1) hx hb dL_law_1139 (by decide) ?_
      refine lv_iadd hx hb dL_law_1140 ?_
      refine va_sld hx hb hXs hbl hbA hW.2.2.2.1 h1 dL_law_1141 ?_
      refine lv_aload_n hx hb dL_law_1142 rfl (lv_at hl 0 rfl) ?_
      refine lv_iload hx hb dL_law_1143 (lv_at hl 4 rfl) ?_
      refine lv_iconst (v := 2) hx hb dL_law_1145 (by decide) ?_
      refine lv_iadd hx hb dL_law_1146 ?_
      refine va_sld hx hb hXs hbl hbA hW.2.2.2.1 h2 dL_law_1147 ?_
      refine lv_aload_n hx hb dL_law_1148 rfl (lv_at hl 0 rfl) ?_
      refine lv_iload hx hb dL_law_1149 (lv_at hl 4 rfl) ?_
      refine lv_iconst (v := 3) hx hb dL_law_1151 (by decide) ?_
      refine lv_iadd hx hb dL_law_1152 ?_
      refine va_sld hx hb hXs hbl hbA hW.2.2.2.1 h3 dL_law_1153 ?_
      refine lv_if_eq (tgt := 1161) hx hb dL_law_1154 (by decide) (fun c9 => absurd c9 c0) (fun _ => ?_)
      refine lv_iconst (v := 1) hx hb dL_law_1157 (by decide) ?_
      refine lv_goto (tgt := 1162) hx hb dL_law_1158 (by decide) ?_
      have hW := Wd.toR hW
      refine wd_callV1 (As := [.int (xs (x4 + 1).toNatClampNeg), .int (xs (x4 + 2).toNatClampNeg), .int 1]) hC hW 0 wR_c0 rfl (c_X9_line l D cy br _ n T (xs (x4 + 1).toNatClampNeg) (xs (x4 + 2).toNatClampNeg) 1 (r, T') hrf) (cwV 3 hts (gl_V w_42_9 w_42_6 w_42_7 w_42_8 w_1_5) rfl rfl rfl (by decide +kernel) ⟨Nat.le_of_ble_eq_true rfl, Nat.le_of_ble_eq_true rfl⟩) rfl hl.1 rfl (Nat.le_of_ble_eq_true rfl) ⟨(show kc (some F) oP i ≤ 601024 by have := kc_le (oF := (some F)) (oP := oP) hi; omega), (show ks (some F) oP i ≤ 7293034 by have := ks_le (oF := (some F)) (oP := oP) hi; omega)⟩ dL_law_1162 (fun H locs hW => ?_)
      have hW := Wd.ofR hW
      refine lv_icmp_eq (tgt := 1422) hx hb dL_law_1165 (by decide) (fun _ => ?_) (fun c9 => absurd rfl c9)
      refine W.widen (k := kc (some F') oP (i + 1)) (n := ks (some F') oP (i + 1)) (by have := kc_s (oF := (some F)) (oP := oP) (i := i); simpa [kc] using this) (by have := ks_s (oF := (some F)) (oP := oP) (i := i); simpa [ks] using this) ?_
      exact K ad S' (some F') oP T' v _ _ _ hW hl hrel
    · refine wd_callV1 (As := [.int (xs (x4 + 1).toNatClampNeg), .int (xs (x4 + 2).toNatClampNeg), .int 1]) hC hW 0 wC_c0 rfl (c_X8_lineN l D cy ad _ n S (xs (x4 + 1).toNatClampNeg) (xs (x4 + 2).toNatClampNeg) 1 (r, S') hc) (cwV 3 hts (gl_V w_42_1 w_41_22 w_41_23 w_42_0 w_1_2) rfl rfl rfl (by decide +kernel) ⟨Nat.le_of_ble_eq_true rfl, Nat.le_of_ble_eq_true rfl⟩) rfl hl.1 rfl (Nat.le_of_ble_eq_true rfl) ⟨(show kc none oP i ≤ 601024 by have := kc_le (oF := none) (oP := oP) hi; omega), (show ks none oP i ≤ 7293034 by have := ks_le (oF := none) (oP := oP) hi; omega)⟩ dL_law_1132 (fun H locs hW => ?_)
      have hW : Wd D cy (fun q => s.heap.size ≤ q) s (WLw ad br cy o S' none oP T v) H locs := hW
      refine lv_aload_n hx hb dL_law_1135 rfl (lv_at hl 2 rfl) ?_
      refine lv_aload_n hx hb dL_law_1136 rfl (lv_at hl 0 rfl) ?_
      refine lv_iload hx hb dL_law_1137 (lv_at hl 4 rfl) ?_
      refine lv_iconst (v := 1) hx hb dL_law_1139 (by decide) ?_
      refine lv_iadd hx hb dL_law_1140 ?_
      refine va_sld hx hb hXs hbl hbA hW.2.2.2.1 h1 dL_law_1141 ?_
      refine lv_aload_n hx hb dL_law_1142 rfl (lv_at hl 0 rfl) ?_
      refine lv_iload hx hb dL_law_1143 (lv_at hl 4 rfl) ?_
      refine lv_iconst (v := 2) hx hb dL_law_1145 (by decide) ?_
      refine lv_iadd hx hb dL_law_1146 ?_
      refine va_sld hx hb hXs hbl hbA hW.2.2.2.1 h2 dL_law_1147 ?_
      refine lv_aload_n hx hb dL_law_1148 rfl (lv_at hl 0 rfl) ?_
      refine lv_iload hx hb dL_law_1149 (lv_at hl 4 rfl) ?_
      refine lv_iconst (v := 3) hx hb dL_law_1151 (by decide) ?_
      refine lv_iadd hx hb dL_law_1152 ?_
      refine va_sld hx hb hXs hbl hbA hW.2.2.2.1 h3 dL_law_1153 ?_
      refine lv_if_eq (tgt := 1161) hx hb dL_law_1154 (by decide) (fun c9 => absurd c9 c0) (fun _ => ?_)
      refine lv_iconst (v := 1) hx hb dL_law_1157 (by decide) ?_
      refine lv_goto (tgt := 1162) hx hb dL_law_1158 (by decide) ?_
      have hW := Wd.toR hW
      refine wd_callV1 (As := [.int (xs (x4 + 1).toNatClampNeg), .int (xs (x4 + 2).toNatClampNeg), .int 1]) hC hW 0 wR_c0 rfl (c_X9_line l D cy br _ n T (xs (x4 + 1).toNatClampNeg) (xs (x4 + 2).toNatClampNeg) 1 (r, T') hrf) (cwV 3 hts (gl_V w_42_9 w_42_6 w_42_7 w_42_8 w_1_5) rfl rfl rfl (by decide +kernel) ⟨Nat.le_of_ble_eq_true rfl, Nat.le_of_ble_eq_true rfl⟩) rfl hl.1 rfl (Nat.le_of_ble_eq_true rfl) ⟨(show kc none oP i ≤ 601024 by have := kc_le (oF := none) (oP := oP) hi; omega), (show ks none oP i ≤ 7293034 by have := ks_le (oF := none) (oP := oP) hi; omega)⟩ dL_law_1162 (fun H locs hW => ?_)
      have hW := Wd.ofR hW
      refine lv_icmp_eq (tgt := 1422) hx hb dL_law_1165 (by decide) (fun _ => ?_) (fun c9 => absurd rfl c9)
      refine W.widen (k := kc none oP (i + 1)) (n := ks none oP (i + 1)) kc_s ks_s ?_
      exact K ad S' none oP T' v _ _ _ hW hl hrel
    · refine wa_callV (As := [.int (xs (x4 + 1).toNatClampNeg), .int (xs (x4 + 2).toNatClampNeg), .int 1]) hC hW 0 wC_c0 rfl (c_X8_lineB l D cy ad _ n S (xs (x4 + 1).toNatClampNeg) (xs (x4 + 2).toNatClampNeg) 1 (r, S', some F') hc) (cwV 3 hts (gl_V w_42_1 w_41_22 w_41_23 w_42_0 w_1_2) rfl rfl rfl (by decide +kernel) ⟨Nat.le_of_ble_eq_true rfl, Nat.le_of_ble_eq_true rfl⟩) rfl hl.1 rfl (Nat.le_of_ble_eq_true rfl) ⟨(show kc none oP i + 22 ≤ 601024 by have := kc_le (oF := none) (oP := oP) hi; omega), (show ks none oP i + 3306 ≤ 7293034 by have := ks_le (oF := none) (oP := oP) hi; omega)⟩ dL_law_1132 (fun r9 w9 H locs hp hW => ?_)
      obtain ⟨rfl, hp⟩ := hp
      rcases hp with ⟨hp, -⟩ | ⟨f, qs, hp, rfl⟩
      · cases hp
      cases hp
      have hW : Wd D cy (fun q => s.heap.size ≤ q) s (WLw (adU ad 59 81 qs) br cy o S' (some F') oP T v) H locs := by
        exact hW.cast (by cases oP <;> rfl)
      have hl : lv_has ls 8 [(0, .ref b), (1, .ref (adU ad 59 81 qs 0)), (2, .ref (br 0)), (3, .ref o), (4, .int x4)] := hl
      refine W.eq (g2 := F0 m 1135 ls [.int r]) rfl ?_
      refine lv_aload_n hx hb dL_law_1135 rfl (lv_at hl 2 rfl) ?_
      refine lv_aload_n hx hb dL_law_1136 rfl (lv_at hl 0 rfl) ?_
      refine lv_iload hx hb dL_law_1137 (lv_at hl 4 rfl) ?_
      refine lv_iconst (v := 1) hx hb dL_law_1139 (by decide) ?_
      refine lv_iadd hx hb dL_law_1140 ?_
      refine va_sld hx hb hXs hbl hbA hW.2.2.2.1 h1 dL_law_1141 ?_
      refine lv_aload_n hx hb dL_law_1142 rfl (lv_at hl 0 rfl) ?_
      refine lv_iload hx hb dL_law_1143 (lv_at hl 4 rfl) ?_
      refine lv_iconst (v := 2) hx hb dL_law_1145 (by decide) ?_
      refine lv_iadd hx hb dL_law_1146 ?_
      refine va_sld hx hb hXs hbl hbA hW.2.2.2.1 h2 dL_law_1147 ?_
      refine lv_aload_n hx hb dL_law_1148 rfl (lv_at hl 0 rfl) ?_
      refine lv_iload hx hb dL_law_1149 (lv_at hl 4 rfl) ?_
      refine lv_iconst (v := 3) hx hb dL_law_1151 (by decide) ?_
      refine lv_iadd hx hb dL_law_1152 ?_
      refine va_sld hx hb hXs hbl hbA hW.2.2.2.1 h3 dL_law_1153 ?_
      refine lv_if_eq (tgt := 1161) hx hb dL_law_1154 (by decide) (fun c9 => absurd c9 c0) (fun _ => ?_)
      refine lv_iconst (v := 1) hx hb dL_law_1157 (by decide) ?_
      refine lv_goto (tgt := 1162) hx hb dL_law_1158 (by decide) ?_
      have hW := Wd.toR hW
      refine wd_callV1 (As := [.int (xs (x4 + 1).toNatClampNeg), .int (xs (x4 + 2).toNatClampNeg), .int 1]) hC hW 0 wR_c0 rfl (c_X9_line l D cy br _ n T (xs (x4 + 1).toNatClampNeg) (xs (x4 + 2).toNatClampNeg) 1 (r, T') hrf) (cwV 3 hts (gl_V w_42_9 w_42_6 w_42_7 w_42_8 w_1_5) rfl rfl rfl (by decide +kernel) ⟨Nat.le_of_ble_eq_true rfl, Nat.le_of_ble_eq_true rfl⟩) rfl hl.1 rfl (Nat.le_of_ble_eq_true rfl) ⟨(show kc none oP i + 22 ≤ 601024 by have := kc_le (oF := none) (oP := oP) hi; omega), (show ks none oP i + 3306 ≤ 7293034 by have := ks_le (oF := none) (oP := oP) hi; omega)⟩ dL_law_1162 (fun H locs hW => ?_)
      have hW := Wd.ofR hW
      refine lv_icmp_eq (tgt := 1422) hx hb dL_law_1165 (by decide) (fun _ => ?_) (fun c9 => absurd rfl c9)
      refine W.widen (k := kc (some F') oP (i + 1)) (n := ks (some F') oP (i + 1)) kc_F ks_F ?_
      exact K (adU ad 59 81 qs) S' (some F') oP T' v _ _ _ hW hl hrel
set_option maxHeartbeats 4000000 in
set_option maxRecDepth 100000 in
theorem law_30 {p : Program} {l : Launch} {e : Env} {s : State} {m : MethodId} {below : List Frame} {meth : Method} {c : Code} {b L : Nat} {xs : Nat → Int32} {D : va_G} {cy : Nat → ClassId} {Q : State → Prop} {n : Nat} {Rel : St → Option St → Option St → St → Prop} {br : Nat → Nat} {o i : Nat} {x4 : Int32} (htr : l.stackTraces = false) (hX : LX p s m c b L xs) (HB : HB_30 n Rel) (hi : i ≤ 512) (h1 : vp_in (x4 + 1) L) (h2 : vp_in (x4 + 2) L) (h3 : vp_in (x4 + 3) L) (h4 : vp_in (x4 + 4) L) (K : LK p l e s m below meth c b D cy Q Rel br o i x4) {ad : Nat → Nat} {S : St} {oF oP : Option St} {T : St} {v : Nat → Int64} {H : Heap} {locs : List Loc} {ls : Array Slot} (hRel : Rel S oF oP T) (hW : Wd D cy (fun q => s.heap.size ≤ q) s (WLw ad br cy o S oF oP T v) H locs) (hl : lv_has ls 8 [(0, .ref b), (1, .ref (ad 0)), (2, .ref (br 0)), (3, .ref o), (4, .int x4)]) : W p l e room_1 s m #[Value.ref b] below meth c H locs (kc oF oP i) (ks oF oP i) Q (F0 m 1170 ls []) := by
  obtain ⟨hC, hXs, hbl, hE, hZ⟩ := hX
  have hx := hC.1
  have hb := hC.2.1
  have hts := hC.2.2.2.2
  have hbA : ¬ (fun q : Nat => s.heap.size ≤ q) b := Nat.not_le.mpr hbl
  refine lv_aload_n hx hb dL_law_1170 rfl (lv_at hl 1 rfl) ?_
  refine lv_aload_n hx hb dL_law_1171 rfl (lv_at hl 0 rfl) ?_
  refine lv_iload hx hb dL_law_1172 (lv_at hl 4 rfl) ?_
  refine lv_iconst (v := 1) hx hb dL_law_1174 (by decide) ?_
  refine lv_iadd hx hb dL_law_1175 ?_
  refine va_sld hx hb hXs hbl hbA hW.2.2.2.1 h1 dL_law_1176 ?_
  refine lv_aload_n hx hb dL_law_1177 rfl (lv_at hl 0 rfl) ?_
  refine lv_iload hx hb dL_law_1178 (lv_at hl 4 rfl) ?_
  refine lv_iconst (v := 2) hx hb dL_law_1180 (by decide) ?_
  refine lv_iadd hx hb dL_law_1181 ?_
  refine va_sld hx hb hXs hbl hbA hW.2.2.2.1 h2 dL_law_1182 ?_
  obtain ⟨r, S', oP', T', hcl, hrf, hrel⟩ := HB S oF oP T (xs (x4 + 1).toNatClampNeg) (xs (x4 + 2).toNatClampNeg) hRel
  rcases hcl with ⟨P, P', rfl, rfl, hc⟩ | ⟨rfl, rfl, hc⟩ | ⟨P', rfl, rfl, hc⟩
  · have hW := Wd.toP hW
    refine wd_callV1 (As := [.int (xs (x4 + 1).toNatClampNeg), .int (xs (x4 + 2).toNatClampNeg)]) hC hW 0 wC_c0 rfl (c_X8_duel l D cy ad _ n S P (xs (x4 + 1).toNatClampNeg) (xs (x4 + 2).toNatClampNeg) (r, S', P') hc) (cwV 2 hts (gl_V w_42_17 w_42_14 w_42_15 w_42_16 w_1_2) rfl rfl rfl (by decide +kernel) ⟨Nat.le_of_ble_eq_true rfl, Nat.le_of_ble_eq_true rfl⟩) rfl hl.1 rfl (Nat.le_of_ble_eq_true rfl) ⟨(show kc oF (some P) i ≤ 601024 by have := kc_le (oF := oF) (oP := (some P)) hi; omega), (show ks oF (some P) i ≤ 7293034 by have := ks_le (oF := oF) (oP := (some P)) hi; omega)⟩ dL_law_1183 (fun H locs hW => ?_)
    have hW := Wd.ofP hW
    have hW : Wd D cy (fun q => s.heap.size ≤ q) s (WLw ad br cy o S' oF (some P') T v) H locs := hW
    refine lv_aload_n hx hb dL_law_1186 rfl (lv_at hl 2 rfl) ?_
    refine lv_aload_n hx hb dL_law_1187 rfl (lv_at hl 0 rfl) ?_
    refine lv_iload hx hb dL_law_1188 (lv_at hl 4 rfl) ?_
    refine lv_iconst (v := 1) hx hb dL_law_1190 (by decide) ?_
    refine lv_iadd hx hb dL_law_1191 ?_
    refine va_sld hx hb hXs hbl hbA hW.2.2.2.1 h1 dL_law_1192 ?_
    refine lv_aload_n hx hb dL_law_1193 rfl (lv_at hl 0 rfl) ?_
    refine lv_iload hx hb dL_law_1194 (lv_at hl 4 rfl) ?_
    refine lv_iconst (v := 2) hx hb dL_law_1196 (by decide) ?_
    refine lv_iadd hx hb dL_law_1197 ?_
    refine va_sld hx hb hXs hbl hbA hW.2.2.2.1 h2 dL_law_1198 ?_
    have hW := Wd.toR hW
    refine wd_callV1 (As := [.int (xs (x4 + 1).toNatClampNeg), .int (xs (x4 + 2).toNatClampNeg)]) hC hW 0 wR_c0 rfl (c_X9_duel l D cy br _ n T (xs (x4 + 1).toNatClampNeg) (xs (x4 + 2).toNatClampNeg) (r, T') hrf) (cwV 2 hts (gl_V w_46_11 w_46_8 w_46_9 w_46_10 w_1_5) rfl rfl rfl (by decide +kernel) ⟨Nat.le_of_ble_eq_true rfl, Nat.le_of_ble_eq_true rfl⟩) rfl hl.1 rfl (Nat.le_of_ble_eq_true rfl) ⟨(show kc oF (some P) i ≤ 601024 by have := kc_le (oF := oF) (oP := (some P)) hi; omega), (show ks oF (some P) i ≤ 7293034 by have := ks_le (oF := oF) (oP := (some P)) hi; omega)⟩ dL_law_1199 (fun H locs hW => ?_)
    have hW := Wd.ofR hW
    refine lv_icmp_eq (tgt := 1422) hx hb dL_law_1202 (by decide) (fun _ => ?_) (fun c9 => absurd rfl c9)
    refine W.widen (k := kc oF (some P') (i + 1)) (n := ks oF (some P') (i + 1)) (by have := kc_s (oF := oF) (oP := (some P)) (i := i); simpa [kc] using this) (by have := ks_s (oF := oF) (oP := (some P)) (i := i); simpa [ks] using this) ?_
    exact K ad S' oF (some P') T' v _ _ _ hW hl hrel
  · refine wd_callV1 (As := [.int (xs (x4 + 1).toNatClampNeg), .int (xs (x4 + 2).toNatClampNeg)]) hC hW 0 wC_c0 rfl (c_X8_duelN l D cy ad _ S (xs (x4 + 1).toNatClampNeg) (xs (x4 + 2).toNatClampNeg) (r, S') hc) (cwV 2 hts (gl_V w_42_17 w_42_14 w_42_15 w_42_16 w_1_2) rfl rfl rfl (by decide +kernel) ⟨Nat.le_of_ble_eq_true rfl, Nat.le_of_ble_eq_true rfl⟩) rfl hl.1 rfl (Nat.le_of_ble_eq_true rfl) ⟨(show kc oF none i ≤ 601024 by have := kc_le (oF := oF) (oP := none) hi; omega), (show ks oF none i ≤ 7293034 by have := ks_le (oF := oF) (oP := none) hi; omega)⟩ dL_law_1183 (fun H locs hW => ?_)
    have hW : Wd D cy (fun q => s.heap.size ≤ q) s (WLw ad br cy o S' oF none T v) H locs := hW
    refine lv_aload_n hx hb dL_law_1186 rfl (lv_at hl 2 rfl) ?_
    refine lv_aload_n hx hb dL_law_1187 rfl (lv_at hl 0 rfl) ?_
    refine lv_iload hx hb dL_law_1188 (lv_at hl 4 rfl) ?_
    refine lv_iconst (v := 1) hx hb dL_law_1190 (by decide) ?_
    refine lv_iadd hx hb dL_law_1191 ?_
    refine va_sld hx hb hXs hbl hbA hW.2.2.2.1 h1 dL_law_1192 ?_
    refine lv_aload_n hx hb dL_law_1193 rfl (lv_at hl 0 rfl) ?_
    refine lv_iload hx hb dL_law_1194 (lv_at hl 4 rfl) ?_
    refine lv_iconst (v := 2) hx hb dL_law_1196 (by decide) ?_
    refine lv_iadd hx hb dL_law_1197 ?_
    refine va_sld hx hb hXs hbl hbA hW.2.2.2.1 h2 dL_law_1198 ?_
    have hW := Wd.toR hW
    refine wd_callV1 (As := [.int (xs (x4 + 1).toNatClampNeg), .int (xs (x4 + 2).toNatClampNeg)]) hC hW 0 wR_c0 rfl (c_X9_duel l D cy br _ n T (xs (x4 + 1).toNatClampNeg) (xs (x4 + 2).toNatClampNeg) (r, T') hrf) (cwV 2 hts (gl_V w_46_11 w_46_8 w_46_9 w_46_10 w_1_5) rfl rfl rfl (by decide +kernel) ⟨Nat.le_of_ble_eq_true rfl, Nat.le_of_ble_eq_true rfl⟩) rfl hl.1 rfl (Nat.le_of_ble_eq_true rfl) ⟨(show kc oF none i ≤ 601024 by have := kc_le (oF := oF) (oP := none) hi; omega), (show ks oF none i ≤ 7293034 by have := ks_le (oF := oF) (oP := none) hi; omega)⟩ dL_law_1199 (fun H locs hW => ?_)
    have hW := Wd.ofR hW
    refine lv_icmp_eq (tgt := 1422) hx hb dL_law_1202 (by decide) (fun _ => ?_) (fun c9 => absurd rfl c9)
    refine W.widen (k := kc oF none (i + 1)) (n := ks oF none (i + 1)) kc_s ks_s ?_
    exact K ad S' oF none T' v _ _ _ hW hl hrel
  · have hW := Wd.toP hW
    refine wa_callV (As := [.int (xs (x4 + 1).toNatClampNeg), .int (xs (x4 + 2).toNatClampNeg)]) hC hW 0 wC_c0 rfl (c_X8_duelB l D cy ad _ n S (xs (x4 + 1).toNatClampNeg) (xs (x4 + 2).toNatClampNeg) (r, S', some P') hc) (cwV 2 hts (gl_V w_42_17 w_42_14 w_42_15 w_42_16 w_1_2) rfl rfl rfl (by decide +kernel) ⟨Nat.le_of_ble_eq_true rfl, Nat.le_of_ble_eq_true rfl⟩) rfl hl.1 rfl (Nat.le_of_ble_eq_true rfl) ⟨(show kc oF none i + 9 ≤ 601024 by have := kc_le (oF := oF) (oP := none) hi; omega), (show ks oF none i + 21992 ≤ 7293034 by have := ks_le (oF := oF) (oP := none) hi; omega)⟩ dL_law_1183 (fun r9 w9 H locs hp hW => ?_)
    obtain ⟨rfl, hp⟩ := hp
    rcases hp with ⟨hp, -⟩ | ⟨f, qs, hp, rfl⟩
    · cases hp
    cases hp
    have hW := Wd.ofP (q := wP (adU ad 81 90 qs) cy P') (z := WO o cy v ++ wR br cy T) (f := oWF ad cy oF) hW
    have hW : Wd D cy (fun q => s.heap.size ≤ q) s (WLw (adU ad 81 90 qs) br cy o S' oF (some P') T v) H locs := by
      cases oF with
      | none => exact hW
      | some F => exact wd_adFP hW
    have hl : lv_has ls 8 [(0, .ref b), (1, .ref (adU ad 81 90 qs 0)), (2, .ref (br 0)), (3, .ref o), (4, .int x4)] := hl
    refine W.eq (g2 := F0 m 1186 ls [.int r]) rfl ?_
    refine lv_aload_n hx hb dL_law_1186 rfl (lv_at hl 2 rfl) ?_
    refine lv_aload_n hx hb dL_law_1187 rfl (lv_at hl 0 rfl) ?_
    refine lv_iload hx hb dL_law_1188 (lv_at hl 4 rfl) ?_
    refine lv_iconst (v := 1) hx hb dL_law_1190 (by decide) ?_
    refine lv_iadd hx hb dL_law_1191 ?_
    refine va_sld hx hb hXs hbl hbA hW.2.2.2.1 h1 dL_law_1192 ?_
    refine lv_aload_n hx hb dL_law_1193 rfl (lv_at hl 0 rfl) ?_
    refine lv_iload hx hb dL_law_1194 (lv_at hl 4 rfl) ?_
    refine lv_iconst (v := 2) hx hb dL_law_1196 (by decide) ?_
    refine lv_iadd hx hb dL_law_1197 ?_
    refine va_sld hx hb hXs hbl hbA hW.2.2.2.1 h2 dL_law_1198 ?_
    have hW := Wd.toR hW
    refine wd_callV1 (As := [.int (xs (x4 + 1).toNatClampNeg), .int (xs (x4 + 2).toNatClampNeg)]) hC hW 0 wR_c0 rfl (c_X9_duel l D cy br _ n T (xs (x4 + 1).toNatClampNeg) (xs (x4 + 2).toNatClampNeg) (r, T') hrf) (cwV 2 hts (gl_V w_46_11 w_46_8 w_46_9 w_46_10 w_1_5) rfl rfl rfl (by decide +kernel) ⟨Nat.le_of_ble_eq_true rfl, Nat.le_of_ble_eq_true rfl⟩) rfl hl.1 rfl (Nat.le_of_ble_eq_true rfl) ⟨(show kc oF none i + 9 ≤ 601024 by have := kc_le (oF := oF) (oP := none) hi; omega), (show ks oF none i + 21992 ≤ 7293034 by have := ks_le (oF := oF) (oP := none) hi; omega)⟩ dL_law_1199 (fun H locs hW => ?_)
    have hW := Wd.ofR hW
    refine lv_icmp_eq (tgt := 1422) hx hb dL_law_1202 (by decide) (fun _ => ?_) (fun c9 => absurd rfl c9)
    refine W.widen (k := kc oF (some P') (i + 1)) (n := ks oF (some P') (i + 1)) kc_P ks_P ?_
    exact K (adU ad 81 90 qs) S' oF (some P') T' v _ _ _ hW hl hrel
set_option maxHeartbeats 4000000 in
set_option maxRecDepth 100000 in
theorem law_31 {p : Program} {l : Launch} {e : Env} {s : State} {m : MethodId} {below : List Frame} {meth : Method} {c : Code} {b L : Nat} {xs : Nat → Int32} {D : va_G} {cy : Nat → ClassId} {Q : State → Prop} {n : Nat} {Rel : St → Option St → Option St → St → Prop} {br : Nat → Nat} {o i : Nat} {x4 : Int32} (htr : l.stackTraces = false) (hX : LX p s m c b L xs) (HB : HB_31 n Rel) (hi : i ≤ 512) (h1 : vp_in (x4 + 1) L) (h2 : vp_in (x4 + 2) L) (h3 : vp_in (x4 + 3) L) (h4 : vp_in (x4 + 4) L) (K : LK p l e s m below meth c b D cy Q Rel br o i x4) {ad : Nat → Nat} {S : St} {oF oP : Option St} {T : St} {v : Nat → Int64} {H : Heap} {locs : List Loc} {ls : Array Slot} (hRel : Rel S oF oP T) (hW : Wd D cy (fun q => s.heap.size ≤ q) s (WLw ad br cy o S oF oP T v) H locs) (hl : lv_has ls 8 [(0, .ref b), (1, .ref (ad 0)), (2, .ref (br 0)), (3, .ref o), (4, .int x4)]) : W p l e room_1 s m #[Value.ref b] below meth c H locs (kc oF oP i) (ks oF oP i) Q (F0 m 1207 ls []) := by
  obtain ⟨hC, hXs, hbl, hE, hZ⟩ := hX
  have hx := hC.1
  have hb := hC.2.1
  have hts := hC.2.2.2.2
  have hbA : ¬ (fun q : Nat => s.heap.size ≤ q) b := Nat.not_le.mpr hbl
  refine lv_aload_n hx hb dL_law_1207 rfl (lv_at hl 1 rfl) ?_
  refine lv_aload_n hx hb dL_law_1208 rfl (lv_at hl 0 rfl) ?_
  refine lv_iload hx hb dL_law_1209 (lv_at hl 4 rfl) ?_
  refine lv_iconst (v := 1) hx hb dL_law_1211 (by decide) ?_
  refine lv_iadd hx hb dL_law_1212 ?_
  refine va_sld hx hb hXs hbl hbA hW.2.2.2.1 h1 dL_law_1213 ?_
  refine lv_aload_n hx hb dL_law_1214 rfl (lv_at hl 0 rfl) ?_
  refine lv_iload hx hb dL_law_1215 (lv_at hl 4 rfl) ?_
  refine lv_iconst (v := 2) hx hb dL_law_1217 (by decide) ?_
  refine lv_iadd hx hb dL_law_1218 ?_
  refine va_sld hx hb hXs hbl hbA hW.2.2.2.1 h2 dL_law_1219 ?_
  refine lv_aload_n hx hb dL_law_1220 rfl (lv_at hl 0 rfl) ?_
  refine lv_iload hx hb dL_law_1221 (lv_at hl 4 rfl) ?_
  refine lv_iconst (v := 3) hx hb dL_law_1223 (by decide) ?_
  refine lv_iadd hx hb dL_law_1224 ?_
  refine va_sld hx hb hXs hbl hbA hW.2.2.2.1 h3 dL_law_1225 ?_
  refine lv_aload_n hx hb dL_law_1226 rfl (lv_at hl 0 rfl) ?_
  refine lv_iload hx hb dL_law_1227 (lv_at hl 4 rfl) ?_
  refine lv_iconst (v := 4) hx hb dL_law_1229 (by decide) ?_
  refine lv_iadd hx hb dL_law_1230 ?_
  refine va_sld hx hb hXs hbl hbA hW.2.2.2.1 h4 dL_law_1231 ?_
  obtain ⟨r, S', oP', T', hcl, hrf, hrel⟩ := HB S oF oP T (xs (x4 + 1).toNatClampNeg) (xs (x4 + 2).toNatClampNeg) (xs (x4 + 3).toNatClampNeg) (xs (x4 + 4).toNatClampNeg) hRel
  rcases hcl with ⟨P, P', rfl, rfl, hc⟩ | ⟨rfl, rfl, hc⟩ | ⟨P', rfl, rfl, hc⟩
  · have hW := Wd.toP hW
    refine wd_callV1 (As := [.int (xs (x4 + 1).toNatClampNeg), .int (xs (x4 + 2).toNatClampNeg), .int (xs (x4 + 3).toNatClampNeg), .int (xs (x4 + 4).toNatClampNeg)]) hC hW 0 wC_c0 rfl (c_X8_bluff l D cy ad _ n S P (xs (x4 + 1).toNatClampNeg) (xs (x4 + 2).toNatClampNeg) (xs (x4 + 3).toNatClampNeg) (xs (x4 + 4).toNatClampNeg) (r, S', P') hc) (cwV 4 hts (gl_V w_48_15 w_48_12 w_48_13 w_48_14 w_1_2) rfl rfl rfl (by decide +kernel) ⟨Nat.le_of_ble_eq_true rfl, Nat.le_of_ble_eq_true rfl⟩) rfl hl.1 rfl (Nat.le_of_ble_eq_true rfl) ⟨(show kc oF (some P) i ≤ 601024 by have := kc_le (oF := oF) (oP := (some P)) hi; omega), (show ks oF (some P) i ≤ 7293034 by have := ks_le (oF := oF) (oP := (some P)) hi; omega)⟩ dL_law_1232 (fun H locs hW => ?_)
    have hW := Wd.ofP hW
    have hW : Wd D cy (fun q => s.heap.size ≤ q) s (WLw ad br cy o S' oF (some P') T v) H locs := hW
    refine lv_aload_n hx hb dL_law_1235 rfl (lv_at hl 2 rfl) ?_
    refine lv_aload_n hx hb dL_law_1236 rfl (lv_at hl 0 rfl) ?_
    refine lv_iload hx hb dL_law_1237 (lv_at hl 4 rfl) ?_
    refine lv_iconst (v := 1) hx hb dL_law_1239 (by decide) ?_
    refine lv_iadd hx hb dL_law_1240 ?_
    refine va_sld hx hb hXs hbl hbA hW.2.2.2.1 h1 dL_law_1241 ?_
    refine lv_aload_n hx hb dL_law_1242 rfl (lv_at hl 0 rfl) ?_
    refine lv_iload hx hb dL_law_1243 (lv_at hl 4 rfl) ?_
    refine lv_iconst (v := 2) hx hb dL_law_1245 (by decide) ?_
    refine lv_iadd hx hb dL_law_1246 ?_
    refine va_sld hx hb hXs hbl hbA hW.2.2.2.1 h2 dL_law_1247 ?_
    refine lv_aload_n hx hb dL_law_1248 rfl (lv_at hl 0 rfl) ?_
    refine lv_iload hx hb dL_law_1249 (lv_at hl 4 rfl) ?_
    refine lv_iconst (v := 3) hx hb dL_law_1251 (by decide) ?_
    refine lv_iadd hx hb dL_law_1252 ?_
    refine va_sld hx hb hXs hbl hbA hW.2.2.2.1 h3 dL_law_1253 ?_
    refine lv_aload_n hx hb dL_law_1254 rfl (lv_at hl 0 rfl) ?_
    refine lv_iload hx hb dL_law_1255 (lv_at hl 4 rfl) ?_
    refine lv_iconst (v := 4) hx hb dL_law_1257 (by decide) ?_
    refine lv_iadd hx hb dL_law_1258 ?_
    refine va_sld hx hb hXs hbl hbA hW.2.2.2.1 h4 dL_law_1259 ?_
    have hW := Wd.toR hW
    refine wd_callV1 (As := [.int (xs (x4 + 1).toNatClampNeg), .int (xs (x4 + 2).toNatClampNeg), .int (xs (x4 + 3).toNatClampNeg), .int (xs (x4 + 4).toNatClampNeg)]) hC hW 0 wR_c0 rfl (c_X9_bluff l D cy br _ n T (xs (x4 + 1).toNatClampNeg) (xs (x4 + 2).toNatClampNeg) (xs (x4 + 3).toNatClampNeg) (xs (x4 + 4).toNatClampNeg) (r, T') hrf) (cwV 4 hts (gl_V w_48_19 w_48_16 w_48_17 w_48_18 w_1_5) rfl rfl rfl (by decide +kernel) ⟨Nat.le_of_ble_eq_true rfl, Nat.le_of_ble_eq_true rfl⟩) rfl hl.1 rfl (Nat.le_of_ble_eq_true rfl) ⟨(show kc oF (some P) i ≤ 601024 by have := kc_le (oF := oF) (oP := (some P)) hi; omega), (show ks oF (some P) i ≤ 7293034 by have := ks_le (oF := oF) (oP := (some P)) hi; omega)⟩ dL_law_1260 (fun H locs hW => ?_)
    have hW := Wd.ofR hW
    refine lv_icmp_eq (tgt := 1422) hx hb dL_law_1263 (by decide) (fun _ => ?_) (fun c9 => absurd rfl c9)
    refine W.widen (k := kc oF (some P') (i + 1)) (n := ks oF (some P') (i + 1)) (by have := kc_s (oF := oF) (oP := (some P)) (i := i); simpa [kc] using this) (by have := ks_s (oF := oF) (oP := (some P)) (i := i); simpa [ks] using this) ?_
    exact K ad S' oF (some P') T' v _ _ _ hW hl hrel
  · refine wd_callV1 (As := [.int (xs (x4 + 1).toNatClampNeg), .int (xs (x4 + 2).toNatClampNeg), .int (xs (x4 + 3).toNatClampNeg), .int (xs (x4 + 4).toNatClampNeg)]) hC hW 0 wC_c0 rfl (c_X8_bluffN l D cy ad _ S (xs (x4 + 1).toNatClampNeg) (xs (x4 + 2).toNatClampNeg) (xs (x4 + 3).toNatClampNeg) (xs (x4 + 4).toNatClampNeg) (r, S') hc) (cwV 4 hts (gl_V w_48_15 w_48_12 w_48_13 w_48_14 w_1_2) rfl rfl rfl (by decide +kernel) ⟨Nat.le_of_ble_eq_true rfl, Nat.le_of_ble_eq_true rfl⟩) rfl hl.1 rfl (Nat.le_of_ble_eq_true rfl) ⟨(show kc oF none i ≤ 601024 by have := kc_le (oF := oF) (oP := none) hi; omega), (show ks oF none i ≤ 7293034 by have := ks_le (oF := oF) (oP := none) hi; omega)⟩ dL_law_1232 (fun H locs hW => ?_)
    have hW : Wd D cy (fun q => s.heap.size ≤ q) s (WLw ad br cy o S' oF none T v) H locs := hW
    refine lv_aload_n hx hb dL_law_1235 rfl (lv_at hl 2 rfl) ?_
    refine lv_aload_n hx hb dL_law_1236 rfl (lv_at hl 0 rfl) ?_
    refine lv_iload hx hb dL_law_1237 (lv_at hl 4 rfl) ?_
    refine lv_iconst (v := 1) hx hb dL_law_1239 (by decide) ?_
    refine lv_iadd hx hb dL_law_1240 ?_
    refine va_sld hx hb hXs hbl hbA hW.2.2.2.1 h1 dL_law_1241 ?_
    refine lv_aload_n hx hb dL_law_1242 rfl (lv_at hl 0 rfl) ?_
    refine lv_iload hx hb dL_law_1243 (lv_at hl 4 rfl) ?_
    refine lv_iconst (v := 2) hx hb dL_law_1245 (by decide) ?_
    refine lv_iadd hx hb dL_law_1246 ?_
    refine va_sld hx hb hXs hbl hbA hW.2.2.2.1 h2 dL_law_1247 ?_
    refine lv_aload_n hx hb dL_law_1248 rfl (lv_at hl 0 rfl) ?_
    refine lv_iload hx hb dL_law_1249 (lv_at hl 4 rfl) ?_
    refine lv_iconst (v := 3) hx hb dL_law_1251 (by decide) ?_
    refine lv_iadd hx hb dL_law_1252 ?_
    refine va_sld hx hb hXs hbl hbA hW.2.2.2.1 h3 dL_law_1253 ?_
    refine lv_aload_n hx hb dL_law_1254 rfl (lv_at hl 0 rfl) ?_
    refine lv_iload hx hb dL_law_1255 (lv_at hl 4 rfl) ?_
    refine lv_iconst (v := 4) hx hb dL_law_1257 (by decide) ?_
    refine lv_iadd hx hb dL_law_1258 ?_
    refine va_sld hx hb hXs hbl hbA hW.2.2.2.1 h4 dL_law_1259 ?_
    have hW := Wd.toR hW
    refine wd_callV1 (As := [.int (xs (x4 + 1).toNatClampNeg), .int (xs (x4 + 2).toNatClampNeg), .int (xs (x4 + 3).toNatClampNeg), .int (xs (x4 + 4).toNatClampNeg)]) hC hW 0 wR_c0 rfl (c_X9_bluff l D cy br _ n T (xs (x4 + 1).toNatClampNeg) (xs (x4 + 2).toNatClampNeg) (xs (x4 + 3).toNatClampNeg) (xs (x4 + 4).toNatClampNeg) (r, T') hrf) (cwV 4 hts (gl_V w_48_19 w_48_16 w_48_17 w_48_18 w_1_5) rfl rfl rfl (by decide +kernel) ⟨Nat.le_of_ble_eq_true rfl, Nat.le_of_ble_eq_true rfl⟩) rfl hl.1 rfl (Nat.le_of_ble_eq_true rfl) ⟨(show kc oF none i ≤ 601024 by have := kc_le (oF := oF) (oP := none) hi; omega), (show ks oF none i ≤ 7293034 by have := ks_le (oF := oF) (oP := none) hi; omega)⟩ dL_law_1260 (fun H locs hW => ?_)
    have hW := Wd.ofR hW
    refine lv_icmp_eq (tgt := 1422) hx hb dL_law_1263 (by decide) (fun _ => ?_) (fun c9 => absurd rfl c9)
    refine W.widen (k := kc oF none (i + 1)) (n := ks oF none (i + 1)) kc_s ks_s ?_
    exact K ad S' oF none T' v _ _ _ hW hl hrel
  · have hW := Wd.toP hW
    refine wa_callV (As := [.int (xs (x4 + 1).toNatClampNeg), .int (xs (x4 + 2).toNatClampNeg), .int (xs (x4 + 3).toNatClampNeg), .int (xs (x4 + 4).toNatClampNeg)]) hC hW 0 wC_c0 rfl (c_X8_bluffB l D cy ad _ n S (xs (x4 + 1).toNatClampNeg) (xs (x4 + 2).toNatClampNeg) (xs (x4 + 3).toNatClampNeg) (xs (x4 + 4).toNatClampNeg) (r, S', some P') hc) (cwV 4 hts (gl_V w_48_15 w_48_12 w_48_13 w_48_14 w_1_2) rfl rfl rfl (by decide +kernel) ⟨Nat.le_of_ble_eq_true rfl, Nat.le_of_ble_eq_true rfl⟩) rfl hl.1 rfl (Nat.le_of_ble_eq_true rfl) ⟨(show kc oF none i + 9 ≤ 601024 by have := kc_le (oF := oF) (oP := none) hi; omega), (show ks oF none i + 21992 ≤ 7293034 by have := ks_le (oF := oF) (oP := none) hi; omega)⟩ dL_law_1232 (fun r9 w9 H locs hp hW => ?_)
    obtain ⟨rfl, hp⟩ := hp
    rcases hp with ⟨hp, -⟩ | ⟨f, qs, hp, rfl⟩
    · cases hp
    cases hp
    have hW := Wd.ofP (q := wP (adU ad 81 90 qs) cy P') (z := WO o cy v ++ wR br cy T) (f := oWF ad cy oF) hW
    have hW : Wd D cy (fun q => s.heap.size ≤ q) s (WLw (adU ad 81 90 qs) br cy o S' oF (some P') T v) H locs := by
      cases oF with
      | none => exact hW
      | some F => exact wd_adFP hW
    have hl : lv_has ls 8 [(0, .ref b), (1, .ref (adU ad 81 90 qs 0)), (2, .ref (br 0)), (3, .ref o), (4, .int x4)] := hl
    refine W.eq (g2 := F0 m 1235 ls [.int r]) rfl ?_
    refine lv_aload_n hx hb dL_law_1235 rfl (lv_at hl 2 rfl) ?_
    refine lv_aload_n hx hb dL_law_1236 rfl (lv_at hl 0 rfl) ?_
    refine lv_iload hx hb dL_law_1237 (lv_at hl 4 rfl) ?_
    refine lv_iconst (v := 1) hx hb dL_law_1239 (by decide) ?_
    refine lv_iadd hx hb dL_law_1240 ?_
    refine va_sld hx hb hXs hbl hbA hW.2.2.2.1 h1 dL_law_1241 ?_
    refine lv_aload_n hx hb dL_law_1242 rfl (lv_at hl 0 rfl) ?_
    refine lv_iload hx hb dL_law_1243 (lv_at hl 4 rfl) ?_
    refine lv_iconst (v := 2) hx hb dL_law_1245 (by decide) ?_
    refine lv_iadd hx hb dL_law_1246 ?_
    refine va_sld hx hb hXs hbl hbA hW.2.2.2.1 h2 dL_law_1247 ?_
    refine lv_aload_n hx hb dL_law_1248 rfl (lv_at hl 0 rfl) ?_
    refine lv_iload hx hb dL_law_1249 (lv_at hl 4 rfl) ?_
    refine lv_iconst (v := 3) hx hb dL_law_1251 (by decide) ?_
    refine lv_iadd hx hb dL_law_1252 ?_
    refine va_sld hx hb hXs hbl hbA hW.2.2.2.1 h3 dL_law_1253 ?_
    refine lv_aload_n hx hb dL_law_1254 rfl (lv_at hl 0 rfl) ?_
    refine lv_iload hx hb dL_law_1255 (lv_at hl 4 rfl) ?_
    refine lv_iconst (v := 4) hx hb dL_law_1257 (by decide) ?_
    refine lv_iadd hx hb dL_law_1258 ?_
    refine va_sld hx hb hXs hbl hbA hW.2.2.2.1 h4 dL_law_1259 ?_
    have hW := Wd.toR hW
    refine wd_callV1 (As := [.int (xs (x4 + 1).toNatClampNeg), .int (xs (x4 + 2).toNatClampNeg), .int (xs (x4 + 3).toNatClampNeg), .int (xs (x4 + 4).toNatClampNeg)]) hC hW 0 wR_c0 rfl (c_X9_bluff l D cy br _ n T (xs (x4 + 1).toNatClampNeg) (xs (x4 + 2).toNatClampNeg) (xs (x4 + 3).toNatClampNeg) (xs (x4 + 4).toNatClampNeg) (r, T') hrf) (cwV 4 hts (gl_V w_48_19 w_48_16 w_48_17 w_48_18 w_1_5) rfl rfl rfl (by decide +kernel) ⟨Nat.le_of_ble_eq_true rfl, Nat.le_of_ble_eq_true rfl⟩) rfl hl.1 rfl (Nat.le_of_ble_eq_true rfl) ⟨(show kc oF none i + 9 ≤ 601024 by have := kc_le (oF := oF) (oP := none) hi; omega), (show ks oF none i + 21992 ≤ 7293034 by have := ks_le (oF := oF) (oP := none) hi; omega)⟩ dL_law_1260 (fun H locs hW => ?_)
    have hW := Wd.ofR hW
    refine lv_icmp_eq (tgt := 1422) hx hb dL_law_1263 (by decide) (fun _ => ?_) (fun c9 => absurd rfl c9)
    refine W.widen (k := kc oF (some P') (i + 1)) (n := ks oF (some P') (i + 1)) kc_P ks_P ?_
    exact K (adU ad 81 90 qs) S' oF (some P') T' v _ _ _ hW hl hrel
set_option maxHeartbeats 4000000 in
set_option maxRecDepth 100000 in
theorem law_32 {p : Program} {l : Launch} {e : Env} {s : State} {m : MethodId} {below : List Frame} {meth : Method} {c : Code} {b L : Nat} {xs : Nat → Int32} {D : va_G} {cy : Nat → ClassId} {Q : State → Prop} {n : Nat} {Rel : St → Option St → Option St → St → Prop} {br : Nat → Nat} {o i : Nat} {x4 : Int32} (htr : l.stackTraces = false) (hX : LX p s m c b L xs) (HB : HB_32 n Rel) (hi : i ≤ 512) (h1 : vp_in (x4 + 1) L) (h2 : vp_in (x4 + 2) L) (h3 : vp_in (x4 + 3) L) (h4 : vp_in (x4 + 4) L) (K : LK p l e s m below meth c b D cy Q Rel br o i x4) {ad : Nat → Nat} {S : St} {oF oP : Option St} {T : St} {v : Nat → Int64} {H : Heap} {locs : List Loc} {ls : Array Slot} (hRel : Rel S oF oP T) (hW : Wd D cy (fun q => s.heap.size ≤ q) s (WLw ad br cy o S oF oP T v) H locs) (hl : lv_has ls 8 [(0, .ref b), (1, .ref (ad 0)), (2, .ref (br 0)), (3, .ref o), (4, .int x4)]) : W p l e room_1 s m #[Value.ref b] below meth c H locs (kc oF oP i) (ks oF oP i) Q (F0 m 1268 ls []) := by
  obtain ⟨hC, hXs, hbl, hE, hZ⟩ := hX
  have hx := hC.1
  have hb := hC.2.1
  have hts := hC.2.2.2.2
  have hbA : ¬ (fun q : Nat => s.heap.size ≤ q) b := Nat.not_le.mpr hbl
  refine lv_aload_n hx hb dL_law_1268 rfl (lv_at hl 1 rfl) ?_
  refine lv_aload_n hx hb dL_law_1269 rfl (lv_at hl 0 rfl) ?_
  refine lv_iload hx hb dL_law_1270 (lv_at hl 4 rfl) ?_
  refine lv_iconst (v := 1) hx hb dL_law_1272 (by decide) ?_
  refine lv_iadd hx hb dL_law_1273 ?_
  refine va_sld hx hb hXs hbl hbA hW.2.2.2.1 h1 dL_law_1274 ?_
  obtain ⟨r, S', T', hc, hrf, hrel⟩ := HB S oF oP T (xs (x4 + 1).toNatClampNeg) hRel
  refine wd_callV1 (As := [.int (xs (x4 + 1).toNatClampNeg)]) hC hW 0 wC_c0 rfl (c_X8_plays l D cy ad _ n S (xs (x4 + 1).toNatClampNeg) (r, S') hc) (cwV 1 hts (gl_V w_48_23 w_48_20 w_48_21 w_48_22 w_1_2) rfl rfl rfl (by decide +kernel) ⟨Nat.le_of_ble_eq_true rfl, Nat.le_of_ble_eq_true rfl⟩) rfl hl.1 rfl (Nat.le_of_ble_eq_true rfl) ⟨(show kc oF oP i ≤ 601024 by have := kc_le (oF := oF) (oP := oP) hi; omega), (show ks oF oP i ≤ 7293034 by have := ks_le (oF := oF) (oP := oP) hi; omega)⟩ dL_law_1275 (fun H locs hW => ?_)
  have hW : Wd D cy (fun q => s.heap.size ≤ q) s (WLw ad br cy o S' oF oP T v) H locs := hW
  refine lv_aload_n hx hb dL_law_1278 rfl (lv_at hl 2 rfl) ?_
  refine lv_aload_n hx hb dL_law_1279 rfl (lv_at hl 0 rfl) ?_
  refine lv_iload hx hb dL_law_1280 (lv_at hl 4 rfl) ?_
  refine lv_iconst (v := 1) hx hb dL_law_1282 (by decide) ?_
  refine lv_iadd hx hb dL_law_1283 ?_
  refine va_sld hx hb hXs hbl hbA hW.2.2.2.1 h1 dL_law_1284 ?_
  have hW := Wd.toR hW
  refine wd_callV1 (As := [.int (xs (x4 + 1).toNatClampNeg)]) hC hW 0 wR_c0 rfl (c_X9_plays l D cy br _ n T (xs (x4 + 1).toNatClampNeg) (r, T') hrf) (cwV 1 hts (gl_V w_49_11 w_49_8 w_49_9 w_49_10 w_1_5) rfl rfl rfl (by decide +kernel) ⟨Nat.le_of_ble_eq_true rfl, Nat.le_of_ble_eq_true rfl⟩) rfl hl.1 rfl (Nat.le_of_ble_eq_true rfl) ⟨(show kc oF oP i ≤ 601024 by have := kc_le (oF := oF) (oP := oP) hi; omega), (show ks oF oP i ≤ 7293034 by have := ks_le (oF := oF) (oP := oP) hi; omega)⟩ dL_law_1285 (fun H locs hW => ?_)
  have hW := Wd.ofR hW
  refine lv_icmp_eq (tgt := 1422) hx hb dL_law_1288 (by decide) (fun _ => ?_) (fun c9 => absurd rfl c9)
  refine W.widen (k := kc oF oP (i + 1)) (n := ks oF oP (i + 1)) kc_s ks_s ?_
  exact K ad S' oF oP T' v _ _ _ hW hl hrel
set_option maxHeartbeats 4000000 in
set_option maxRecDepth 100000 in
theorem law_33 {p : Program} {l : Launch} {e : Env} {s : State} {m : MethodId} {below : List Frame} {meth : Method} {c : Code} {b L : Nat} {xs : Nat → Int32} {D : va_G} {cy : Nat → ClassId} {Q : State → Prop} {n : Nat} {Rel : St → Option St → Option St → St → Prop} {br : Nat → Nat} {o i : Nat} {x4 : Int32} (htr : l.stackTraces = false) (hX : LX p s m c b L xs) (HB : HB_33 n Rel) (hi : i ≤ 512) (h1 : vp_in (x4 + 1) L) (h2 : vp_in (x4 + 2) L) (h3 : vp_in (x4 + 3) L) (h4 : vp_in (x4 + 4) L) (K : LK p l e s m below meth c b D cy Q Rel br o i x4) {ad : Nat → Nat} {S : St} {oF oP : Option St} {T : St} {v : Nat → Int64} {H : Heap} {locs : List Loc} {ls : Array Slot} (hRel : Rel S oF oP T) (hW : Wd D cy (fun q => s.heap.size ≤ q) s (WLw ad br cy o S oF oP T v) H locs) (hl : lv_has ls 8 [(0, .ref b), (1, .ref (ad 0)), (2, .ref (br 0)), (3, .ref o), (4, .int x4)]) : W p l e room_1 s m #[Value.ref b] below meth c H locs (kc oF oP i) (ks oF oP i) Q (F0 m 1293 ls []) := by
  obtain ⟨hC, hXs, hbl, hE, hZ⟩ := hX
  have hx := hC.1
  have hb := hC.2.1
  have hts := hC.2.2.2.2
  have hbA : ¬ (fun q : Nat => s.heap.size ≤ q) b := Nat.not_le.mpr hbl
  refine lv_aload_n hx hb dL_law_1293 rfl (lv_at hl 1 rfl) ?_
  refine lv_aload_n hx hb dL_law_1294 rfl (lv_at hl 0 rfl) ?_
  refine lv_iload hx hb dL_law_1295 (lv_at hl 4 rfl) ?_
  refine lv_iconst (v := 1) hx hb dL_law_1297 (by decide) ?_
  refine lv_iadd hx hb dL_law_1298 ?_
  refine va_sld hx hb hXs hbl hbA hW.2.2.2.1 h1 dL_law_1299 ?_
  refine lv_aload_n hx hb dL_law_1300 rfl (lv_at hl 0 rfl) ?_
  refine lv_iload hx hb dL_law_1301 (lv_at hl 4 rfl) ?_
  refine lv_iconst (v := 2) hx hb dL_law_1303 (by decide) ?_
  refine lv_iadd hx hb dL_law_1304 ?_
  refine va_sld hx hb hXs hbl hbA hW.2.2.2.1 h2 dL_law_1305 ?_
  refine lv_aload_n hx hb dL_law_1306 rfl (lv_at hl 0 rfl) ?_
  refine lv_iload hx hb dL_law_1307 (lv_at hl 4 rfl) ?_
  refine lv_iconst (v := 3) hx hb dL_law_1309 (by decide) ?_
  refine lv_iadd hx hb dL_law_1310 ?_
  refine va_sld hx hb hXs hbl hbA hW.2.2.2.1 h3 dL_law_1311 ?_
  obtain ⟨r, S', T', hc, hrf, hrel⟩ := HB S oF oP T (xs (x4 + 1).toNatClampNeg) (xs (x4 + 2).toNatClampNeg) (xs (x4 + 3).toNatClampNeg) hRel
  refine wd_callV1 (As := [.int (xs (x4 + 1).toNatClampNeg), .int (xs (x4 + 2).toNatClampNeg), .int (xs (x4 + 3).toNatClampNeg)]) hC hW 0 wC_c0 rfl (c_X8_often l D cy ad _ n S (xs (x4 + 1).toNatClampNeg) (xs (x4 + 2).toNatClampNeg) (xs (x4 + 3).toNatClampNeg) (r, S') hc) (cwV 3 hts (gl_V w_50_1 w_49_22 w_49_23 w_50_0 w_1_2) rfl rfl rfl (by decide +kernel) ⟨Nat.le_of_ble_eq_true rfl, Nat.le_of_ble_eq_true rfl⟩) rfl hl.1 rfl (Nat.le_of_ble_eq_true rfl) ⟨(show kc oF oP i ≤ 601024 by have := kc_le (oF := oF) (oP := oP) hi; omega), (show ks oF oP i ≤ 7293034 by have := ks_le (oF := oF) (oP := oP) hi; omega)⟩ dL_law_1312 (fun H locs hW => ?_)
  have hW : Wd D cy (fun q => s.heap.size ≤ q) s (WLw ad br cy o S' oF oP T v) H locs := hW
  refine lv_aload_n hx hb dL_law_1315 rfl (lv_at hl 2 rfl) ?_
  refine lv_aload_n hx hb dL_law_1316 rfl (lv_at hl 0 rfl) ?_
  refine lv_iload hx hb dL_law_1317 (lv_at hl 4 rfl) ?_
  refine lv_iconst (v := 1) hx hb dL_law_1319 (by decide) ?_
  refine lv_iadd hx hb dL_law_1320 ?_
  refine va_sld hx hb hXs hbl hbA hW.2.2.2.1 h1 dL_law_1321 ?_
  refine lv_aload_n hx hb dL_law_1322 rfl (lv_at hl 0 rfl) ?_
  refine lv_iload hx hb dL_law_1323 (lv_at hl 4 rfl) ?_
  refine lv_iconst (v := 2) hx hb dL_law_1325 (by decide) ?_
  refine lv_iadd hx hb dL_law_1326 ?_
  refine va_sld hx hb hXs hbl hbA hW.2.2.2.1 h2 dL_law_1327 ?_
  refine lv_aload_n hx hb dL_law_1328 rfl (lv_at hl 0 rfl) ?_
  refine lv_iload hx hb dL_law_1329 (lv_at hl 4 rfl) ?_
  refine lv_iconst (v := 3) hx hb dL_law_1331 (by decide) ?_
  refine lv_iadd hx hb dL_law_1332 ?_
  refine va_sld hx hb hXs hbl hbA hW.2.2.2.1 h3 dL_law_1333 ?_
  have hW := Wd.toR hW
  refine wd_callV1 (As := [.int (xs (x4 + 1).toNatClampNeg), .int (xs (x4 + 2).toNatClampNeg), .int (xs (x4 + 3).toNatClampNeg)]) hC hW 0 wR_c0 rfl (c_X9_often l D cy br _ n T (xs (x4 + 1).toNatClampNeg) (xs (x4 + 2).toNatClampNeg) (xs (x4 + 3).toNatClampNeg) (r, T') hrf) (cwV 3 hts (gl_V w_50_9 w_50_6 w_50_7 w_50_8 w_1_5) rfl rfl rfl (by decide +kernel) ⟨Nat.le_of_ble_eq_true rfl, Nat.le_of_ble_eq_true rfl⟩) rfl hl.1 rfl (Nat.le_of_ble_eq_true rfl) ⟨(show kc oF oP i ≤ 601024 by have := kc_le (oF := oF) (oP := oP) hi; omega), (show ks oF oP i ≤ 7293034 by have := ks_le (oF := oF) (oP := oP) hi; omega)⟩ dL_law_1334 (fun H locs hW => ?_)
  have hW := Wd.ofR hW
  refine lv_icmp_eq (tgt := 1422) hx hb dL_law_1337 (by decide) (fun _ => ?_) (fun c9 => absurd rfl c9)
  refine W.widen (k := kc oF oP (i + 1)) (n := ks oF oP (i + 1)) kc_s ks_s ?_
  exact K ad S' oF oP T' v _ _ _ hW hl hrel
set_option maxHeartbeats 4000000 in
set_option maxRecDepth 100000 in
theorem law_34 {p : Program} {l : Launch} {e : Env} {s : State} {m : MethodId} {below : List Frame} {meth : Method} {c : Code} {b L : Nat} {xs : Nat → Int32} {D : va_G} {cy : Nat → ClassId} {Q : State → Prop} {n : Nat} {Rel : St → Option St → Option St → St → Prop} {br : Nat → Nat} {o i : Nat} {x4 : Int32} (htr : l.stackTraces = false) (hX : LX p s m c b L xs) (HB : HB_34 n Rel) (hi : i ≤ 512) (h1 : vp_in (x4 + 1) L) (h2 : vp_in (x4 + 2) L) (h3 : vp_in (x4 + 3) L) (h4 : vp_in (x4 + 4) L) (K : LK p l e s m below meth c b D cy Q Rel br o i x4) {ad : Nat → Nat} {S : St} {oF oP : Option St} {T : St} {v : Nat → Int64} {H : Heap} {locs : List Loc} {ls : Array Slot} (hRel : Rel S oF oP T) (hW : Wd D cy (fun q => s.heap.size ≤ q) s (WLw ad br cy o S oF oP T v) H locs) (hl : lv_has ls 8 [(0, .ref b), (1, .ref (ad 0)), (2, .ref (br 0)), (3, .ref o), (4, .int x4)]) : W p l e room_1 s m #[Value.ref b] below meth c H locs (kc oF oP i) (ks oF oP i) Q (F0 m 1342 ls []) := by
  obtain ⟨hC, hXs, hbl, hE, hZ⟩ := hX
  have hx := hC.1
  have hb := hC.2.1
  have hts := hC.2.2.2.2
  have hbA : ¬ (fun q : Nat => s.heap.size ≤ q) b := Nat.not_le.mpr hbl
  refine lv_aload_n hx hb dL_law_1342 rfl (lv_at hl 1 rfl) ?_
  refine lv_aload_n hx hb dL_law_1343 rfl (lv_at hl 0 rfl) ?_
  refine lv_iload hx hb dL_law_1344 (lv_at hl 4 rfl) ?_
  refine lv_iconst (v := 1) hx hb dL_law_1346 (by decide) ?_
  refine lv_iadd hx hb dL_law_1347 ?_
  refine va_sld hx hb hXs hbl hbA hW.2.2.2.1 h1 dL_law_1348 ?_
  obtain ⟨r, T', hc, hrf, hrel⟩ := HB S oF oP T (xs (x4 + 1).toNatClampNeg) hRel
  refine wd_callV1 (As := [.int (xs (x4 + 1).toNatClampNeg)]) hC hW 0 wC_c0 rfl (c_X8_count l D cy ad _ n S (xs (x4 + 1).toNatClampNeg) r hc) (cwV 1 hts (gl_V w_50_14 w_50_11 w_50_12 w_50_13 w_1_2) rfl rfl rfl (by decide +kernel) ⟨Nat.le_of_ble_eq_true rfl, Nat.le_of_ble_eq_true rfl⟩) rfl hl.1 rfl (Nat.le_of_ble_eq_true rfl) ⟨(show kc oF oP i ≤ 601024 by have := kc_le (oF := oF) (oP := oP) hi; omega), (show ks oF oP i ≤ 7293034 by have := ks_le (oF := oF) (oP := oP) hi; omega)⟩ dL_law_1349 (fun H locs hW => ?_)
  have hW : Wd D cy (fun q => s.heap.size ≤ q) s (WLw ad br cy o S oF oP T v) H locs := hW
  refine lv_aload_n hx hb dL_law_1352 rfl (lv_at hl 2 rfl) ?_
  refine lv_aload_n hx hb dL_law_1353 rfl (lv_at hl 0 rfl) ?_
  refine lv_iload hx hb dL_law_1354 (lv_at hl 4 rfl) ?_
  refine lv_iconst (v := 1) hx hb dL_law_1356 (by decide) ?_
  refine lv_iadd hx hb dL_law_1357 ?_
  refine va_sld hx hb hXs hbl hbA hW.2.2.2.1 h1 dL_law_1358 ?_
  have hW := Wd.toR hW
  refine wd_callV1 (As := [.int (xs (x4 + 1).toNatClampNeg)]) hC hW 0 wR_c0 rfl (c_X9_count l D cy br _ n T (xs (x4 + 1).toNatClampNeg) (r, T') hrf) (cwV 1 hts (gl_V w_51_0 w_50_21 w_50_22 w_50_23 w_1_5) rfl rfl rfl (by decide +kernel) ⟨Nat.le_of_ble_eq_true rfl, Nat.le_of_ble_eq_true rfl⟩) rfl hl.1 rfl (Nat.le_of_ble_eq_true rfl) ⟨(show kc oF oP i ≤ 601024 by have := kc_le (oF := oF) (oP := oP) hi; omega), (show ks oF oP i ≤ 7293034 by have := ks_le (oF := oF) (oP := oP) hi; omega)⟩ dL_law_1359 (fun H locs hW => ?_)
  have hW := Wd.ofR hW
  refine lv_icmp_eq (tgt := 1422) hx hb dL_law_1362 (by decide) (fun _ => ?_) (fun c9 => absurd rfl c9)
  refine W.widen (k := kc oF oP (i + 1)) (n := ks oF oP (i + 1)) kc_s ks_s ?_
  exact K ad S oF oP T' v _ _ _ hW hl hrel
set_option maxHeartbeats 4000000 in
set_option maxRecDepth 100000 in
theorem law_35 {p : Program} {l : Launch} {e : Env} {s : State} {m : MethodId} {below : List Frame} {meth : Method} {c : Code} {b L : Nat} {xs : Nat → Int32} {D : va_G} {cy : Nat → ClassId} {Q : State → Prop} {n : Nat} {Rel : St → Option St → Option St → St → Prop} {br : Nat → Nat} {o i : Nat} {x4 : Int32} (htr : l.stackTraces = false) (hX : LX p s m c b L xs) (HB : HB_35 n Rel) (hi : i ≤ 512) (h1 : vp_in (x4 + 1) L) (K : LK p l e s m below meth c b D cy Q Rel br o i x4) {ad : Nat → Nat} {S : St} {oF oP : Option St} {T : St} {v : Nat → Int64} {H : Heap} {locs : List Loc} {ls : Array Slot} (hRel : Rel S oF oP T) (hW : Wd D cy (fun q => s.heap.size ≤ q) s (WLw ad br cy o S oF oP T v) H locs) (hl : lv_has ls 8 [(0, .ref b), (1, .ref (ad 0)), (2, .ref (br 0)), (3, .ref o), (4, .int x4)]) : W p l e room_1 s m #[Value.ref b] below meth c H locs (kc oF oP i) (ks oF oP i) Q (F0 m 1367 ls []) := by
  obtain ⟨hC, hXs, hbl, hE, hZ⟩ := hX
  have hx := hC.1
  have hb := hC.2.1
  have hts := hC.2.2.2.2
  have hbA : ¬ (fun q : Nat => s.heap.size ≤ q) b := Nat.not_le.mpr hbl
  obtain ⟨q, T', k, hrf, hth, hrel, hcl⟩ := HB S oF oP T (xs (x4 + 1).toNatClampNeg) hRel
  refine lv_aload_n hx hb dL_law_1367 rfl (lv_at hl 1 rfl) ?_
  refine lv_aload_n hx hb dL_law_1368 rfl (lv_at hl 0 rfl) ?_
  refine lv_iload hx hb dL_law_1369 (lv_at hl 4 rfl) ?_
  refine lv_iconst (v := 1) hx hb dL_law_1371 (by decide) ?_
  refine lv_iadd hx hb dL_law_1372 ?_
  refine va_sld hx hb hXs hbl hbA hW.2.2.2.1 h1 dL_law_1373 ?_
  refine lv_aload_n hx hb dL_law_1374 rfl (lv_at hl 3 rfl) ?_
  have hg := gl_row w_51_5 w_51_6 w_51_7 w_51_8
  have hd9 : yL_row.cls ≠ "java/lang/invoke/MethodHandle" ∧ yL_row.cls ≠ "java/lang/invoke/VarHandle" ∧ (parseMethodDescriptor yL_row.desc).map (fun d => d.parameters.length) = some 3 := by decide +kernel
  rcases hcl with ⟨rfl, hc⟩ | ⟨rfl, hc⟩
  · have hW := Wd.toO hW
    refine wd_run hW (vx_runSW (As := [.ref (ad 0), .int (xs (x4 + 1).toNatClampNeg), .ref o]) (rest := []) hC (c_L_row_in l D cy ad _ S (xs (x4 + 1).toNatClampNeg) o v (q, S) hc H.size) (vx_cwSW 3 hts hg rfl rfl rfl hd9 ⟨Nat.le_of_ble_eq_true rfl, Nat.le_of_ble_eq_true rfl⟩) ⟨CP.blind, wd_pre hW _⟩ rfl rfl hl.1 rfl (lv_room (Nat.le_of_ble_eq_true rfl)) dL_law_1375 ⟨(show kc oF oP i ≤ 601024 by have := kc_le (oF := oF) (oP := oP) hi; omega), (show ks oF oP i ≤ 7293034 by have := ks_le (oF := oF) (oP := oP) hi; omega)⟩) (fun H locs hW => ?_)
    have hW := Wd.ofO hW
    refine W.eq (g2 := F0 m 1378 ls [.int 0]) rfl ?_
    have hW : Wd D cy (fun q => s.heap.size ≤ q) s (WLw ad br cy o S oF oP T (vp_updL v 0 q)) H locs := hW
    refine lv_istore (lv' := [(5, .int 0), (0, .ref b), (1, .ref (ad 0)), (2, .ref (br 0)), (3, .ref o), (4, .int x4)]) hx hb dL_law_1378 hl (by decide) rfl (fun ls hl => ?_)
    refine lv_aload_n hx hb dL_law_1380 rfl (lv_at hl 3 rfl) ?_
    refine lv_aload_n hx hb dL_law_1381 rfl (lv_at hl 1 rfl) ?_
    refine lv_iload hx hb dL_law_1382 (lv_at hl 5 rfl) ?_
    refine lv_iconst (v := 1) hx hb dL_law_1384 (by decide) ?_
    refine lv_iadd hx hb dL_law_1385 ?_
    refine va_sld hx hb hXs hbl hbA hW.2.2.2.1 h1 dL_law_1386 ?_
    have hW := Wd.toR hW
    refine wd_callV1 (As := [.int (xs (x4 + 1).toNatClampNeg)]) hC hW 0 wR_c0 rfl (c_X9_row l D cy br _ T (xs (x4 + 1).toNatClampNeg) (q, T') hrf) (cwV 1 hts (gl_V w_51_19 w_51_16 w_51_17 w_51_18 w_1_5) rfl rfl rfl (by decide +kernel) ⟨Nat.le_of_ble_eq_true rfl, Nat.le_of_ble_eq_true rfl⟩) rfl hl.1 rfl (Nat.le_of_ble_eq_true rfl) ⟨(show kc oF oP i ≤ 601024 by have := kc_le (oF := oF) (oP := oP) hi; omega), (show ks oF oP i ≤ 7293034 by have := ks_le (oF := oF) (oP := oP) hi; omega)⟩ dL_law_1387 (fun H locs hW => ?_)
    refine lv_lstore (lv' := [(6, .long q), (5, .int 0), (0, .ref b), (1, .ref (ad 0)), (2, .ref (br 0)), (3, .ref o), (4, .int x4)]) hx hb dL_law_1390 hl (by decide) rfl (fun ls hl => ?_)
    refine lv_aload_n hx hb dL_law_1392 rfl (lv_at hl 4 rfl) ?_
    refine wd_callV1 (As := []) hC hW 0 wR_c0 rfl (c_X9_thrown l D cy br _ T' 0 hth) (cwV 0 hts (gl_V w_51_23 w_51_20 w_51_21 w_51_22 w_1_5) rfl rfl rfl (by decide +kernel) ⟨Nat.le_of_ble_eq_true rfl, Nat.le_of_ble_eq_true rfl⟩) rfl hl.1 rfl (Nat.le_of_ble_eq_true rfl) ⟨(show kc oF oP i ≤ 601024 by have := kc_le (oF := oF) (oP := oP) hi; omega), (show ks oF oP i ≤ 7293034 by have := ks_le (oF := oF) (oP := oP) hi; omega)⟩ dL_law_1393 (fun H locs hW => ?_)
    have hW := Wd.ofR hW
    refine lv_iload hx hb dL_law_1396 (lv_at hl 1 rfl) ?_
    refine lv_icmp_eq (tgt := 1403) hx hb dL_law_1398 (by decide) (fun _ => ?_) (fun c9 => absurd rfl c9)
    refine lv_iload hx hb dL_law_1403 (lv_at hl 1 rfl) ?_
    refine lv_if_ne (tgt := 1419) hx hb dL_law_1405 (by decide) (fun c9 => absurd rfl c9) (fun _ => ?_)
    refine lv_aload_n hx hb dL_law_1408 rfl (lv_at hl 5 rfl) ?_
    refine lv_iconst (v := 0) hx hb dL_law_1409 (by decide) ?_
    have hW := Wd.toO hW
    refine wd_lald hC hW 59 rfl (vp_in_iff.mpr ⟨by decide, by decide⟩) dL_law_1410 ?_
    have hW := Wd.ofO hW
    refine lv_lload hx hb dL_law_1411 (lv_at hl 0 rfl) ?_
    refine W.lcmp hx hb dL_law_1413 ?_
    refine lv_if_eq (tgt := 1419) hx hb dL_law_1414 (by decide) (fun _ => ?_) (fun c9 => absurd (show lg_cmp q q = 0 by simp [lg_cmp]) c9)
    refine lv_goto (tgt := 1422) hx hb dL_law_1419 (by decide) ?_
    refine W.widen (k := kc oF oP (i + 1)) (n := ks oF oP (i + 1)) kc_s ks_s ?_
    exact K ad S oF oP T' _ _ _ _ hW (lv_sub hl [2, 3, 4, 5, 6] rfl) hrel
  · have hF : ∀ q9, va_A (WLw ad br cy o S oF oP T v) H.size q9 → (fun q : Nat => s.heap.size ≤ q) q9 := fun q9 h9 => h9.elim (fun ⟨k9, e9, h8⟩ => hW.2.2.1.2 k9 (q9, e9) h8) (fun h8 => Nat.le_trans hW.2.2.2.1.1 h8)
    refine wa_run hW (vx_runSW (As := [.ref (ad 0), .int (xs (x4 + 1).toNatClampNeg), .ref o]) (rest := []) hC (c_L_row_out l htr D cy ad _ S (xs (x4 + 1).toNatClampNeg) o hc H.size) (vx_cwSW 3 hts hg rfl rfl rfl hd9 ⟨Nat.le_of_ble_eq_true rfl, Nat.le_of_ble_eq_true rfl⟩) ⟨CPx.blind, fun U hU hw => ⟨rfl, (wd_pre hW [.ref (ad 0), .int (xs (x4 + 1).toNatClampNeg), .ref o] U hU hw).2, hE.warm hw, by rw [hU]; exact ((hZ.kept (fun a9 h9 h8 => hW.2.2.2.1.2.1 a9 h9 h8)).narrow hF).moved hw.alike⟩⟩ rfl rfl hl.1 rfl (lv_room (Nat.le_of_ble_eq_true rfl)) dL_law_1375 ⟨(show kc oF oP i + 1 ≤ 601024 by have := kc_le (oF := oF) (oP := oP) hi; omega), (show ks oF oP i + 6 ≤ 7293034 by have := ks_le (oF := oF) (oP := oP) hi; omega)⟩) (fun r9 w9 H locs hp hW => ?_)
    obtain ⟨rfl, rfl⟩ := hp
    refine W.eq (g2 := F0 m 1378 ls [.int 1]) rfl ?_
    refine lv_istore (lv' := [(5, .int 1), (0, .ref b), (1, .ref (ad 0)), (2, .ref (br 0)), (3, .ref o), (4, .int x4)]) hx hb dL_law_1378 hl (by decide) rfl (fun ls hl => ?_)
    refine lv_aload_n hx hb dL_law_1380 rfl (lv_at hl 3 rfl) ?_
    refine lv_aload_n hx hb dL_law_1381 rfl (lv_at hl 1 rfl) ?_
    refine lv_iload hx hb dL_law_1382 (lv_at hl 5 rfl) ?_
    refine lv_iconst (v := 1) hx hb dL_law_1384 (by decide) ?_
    refine lv_iadd hx hb dL_law_1385 ?_
    refine va_sld hx hb hXs hbl hbA hW.2.2.2.1 h1 dL_law_1386 ?_
    have hW := Wd.toR hW
    refine wd_callV1 (As := [.int (xs (x4 + 1).toNatClampNeg)]) hC hW 0 wR_c0 rfl (c_X9_row l D cy br _ T (xs (x4 + 1).toNatClampNeg) (q, T') hrf) (cwV 1 hts (gl_V w_51_19 w_51_16 w_51_17 w_51_18 w_1_5) rfl rfl rfl (by decide +kernel) ⟨Nat.le_of_ble_eq_true rfl, Nat.le_of_ble_eq_true rfl⟩) rfl hl.1 rfl (Nat.le_of_ble_eq_true rfl) ⟨(show kc oF oP i + 1 ≤ 601024 by have := kc_le (oF := oF) (oP := oP) hi; omega), (show ks oF oP i + 6 ≤ 7293034 by have := ks_le (oF := oF) (oP := oP) hi; omega)⟩ dL_law_1387 (fun H locs hW => ?_)
    refine lv_lstore (lv' := [(6, .long q), (5, .int 1), (0, .ref b), (1, .ref (ad 0)), (2, .ref (br 0)), (3, .ref o), (4, .int x4)]) hx hb dL_law_1390 hl (by decide) rfl (fun ls hl => ?_)
    refine lv_aload_n hx hb dL_law_1392 rfl (lv_at hl 4 rfl) ?_
    refine wd_callV1 (As := []) hC hW 0 wR_c0 rfl (c_X9_thrown l D cy br _ T' 1 hth) (cwV 0 hts (gl_V w_51_23 w_51_20 w_51_21 w_51_22 w_1_5) rfl rfl rfl (by decide +kernel) ⟨Nat.le_of_ble_eq_true rfl, Nat.le_of_ble_eq_true rfl⟩) rfl hl.1 rfl (Nat.le_of_ble_eq_true rfl) ⟨(show kc oF oP i + 1 ≤ 601024 by have := kc_le (oF := oF) (oP := oP) hi; omega), (show ks oF oP i + 6 ≤ 7293034 by have := ks_le (oF := oF) (oP := oP) hi; omega)⟩ dL_law_1393 (fun H locs hW => ?_)
    have hW := Wd.ofR hW
    refine lv_iload hx hb dL_law_1396 (lv_at hl 1 rfl) ?_
    refine lv_icmp_eq (tgt := 1403) hx hb dL_law_1398 (by decide) (fun _ => ?_) (fun c9 => absurd rfl c9)
    refine lv_iload hx hb dL_law_1403 (lv_at hl 1 rfl) ?_
    refine lv_if_ne (tgt := 1419) hx hb dL_law_1405 (by decide) (fun _ => ?_) (fun c9 => absurd c9 (by decide))
    refine lv_goto (tgt := 1422) hx hb dL_law_1419 (by decide) ?_
    refine W.widen (k := kc oF oP (i + 1)) (n := ks oF oP (i + 1)) kc_1 ks_6 ?_
    exact K ad S oF oP T' v _ _ _ hW (lv_sub hl [2, 3, 4, 5, 6] rfl) hrel
