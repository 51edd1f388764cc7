set_option maxHeartbeats 4000000 in
set_option maxRecDepth 100000 in
theorem L0_readsReady {p : Program} {e : Env} {s : State} {m : MethodId} {args : Array Value} {below : List Frame} {meth : Method} {c : Code} {Q : State → Prop} {A : Nat → Prop} (l : Launch) (D : va_G) (cI cZ cG : ClassId) (h : Nat) (ad : Nat → Nat) (u : kU) (P : Nat → kIns) (n : Nat) (hin : kIn P n u) (i : Nat) (hi : i < n) (ht : kTimes P i u) (hla : kLat P i u) (hx : p.tables.exec = Jvm.exec) (hb : c.code = c0_readsReady) (hml : c.maxLocals = 4) (hown : s.vm.findClass "StageClock" = some m.cls) (hB : ∀ w ∈ kBIG, w.before args s = true) (hK : va_K D kcl (kty cI cZ cG) s) (hA : ∀ q : Nat, s.heap.size ≤ q → A q) (hE : kE s) (hZ : kZ A s s.heap)
    (kk : ∀ (ls : Array Slot) (H : Heap) (locs : List Loc), lv_has ls 4 [(3, .int (nI 16)), (2, .int (nI (mt_rd P (mt_tm P) i 0 15))), (0, .ref h), (1, .int (nI i))] → kI D A s.heap (kwC h ad cI cZ cG u) H locs → W p l e ({ frames := 1, cells := 0, slots := 0, locals := 30 } : Room) s m args below meth c H locs 0 0 Q (F0 m 40 ls []))
    : ∀ (d : Nat) (ls : Array Slot) (H : Heap) (locs : List Loc) (r : Nat) (hd : r + d = 15), lv_has ls 4 [(3, .int (nI (r + 1))), (2, .int (nI (mt_rd P (mt_tm P) i 0 r))), (0, .ref h), (1, .int (nI i))] → kI D A s.heap (kwC h ad cI cZ cG u) H locs → W p l e ({ frames := 1, cells := 0, slots := 0, locals := 30 } : Room) s m args below meth c H locs 0 0 Q (F0 m 4 ls []) := by
  have hn := hin.2.1
  have hok : ∀ j, j < i → mt_ok (P j) := fun j hj => (hin.2.2 j (by omega)).1
  intro d
  induction d with
  | zero =>
    intro ls H locs r hd hl hI
    obtain rfl : r = 15 := by omega
    refine lv_iload_n hx hb d0_readsReady_4 rfl (lv_at hl 0 rfl) ?_
    refine lv_bipush (v := nI 15) hx hb d0_readsReady_5 (by decide) ?_
    refine lv_icmp_gt (tgt := 40) hx hb d0_readsReady_7 (by decide) (fun hc => ?_) (fun hc => ?_)
    · skip
      exact kk ls H locs hl hI
    · exact absurd (nI_lt (by omega) (by omega)) hc
  | succ d ih =>
    intro ls H locs r hd hl hI
    have hb1 := mt_rd_le hok 0 r
    have hb2 := mt_beh_le hok (r + 1)
    refine lv_iload_n hx hb d0_readsReady_4 rfl (lv_at hl 0 rfl) ?_
    refine lv_bipush (v := nI 15) hx hb d0_readsReady_5 (by decide) ?_
    refine lv_icmp_gt (tgt := 40) hx hb d0_readsReady_7 (by decide) (fun hc => ?_) (fun hc => ?_)
    · exact absurd hc (nI_nlt (by omega) (by omega))
    · skip
      refine lv_aload_n hx hb d0_readsReady_10 rfl (lv_at hl 2 rfl) ?_
      refine kC_g2 hx hb hB hown hK hI d0_readsReady_11 ?_
      refine lv_iload_n hx hb d0_readsReady_14 rfl (lv_at hl 3 rfl) ?_
      refine kC_l2 (v := mt_r (P i)) hx hb hK hI i (by omega) (rfl) ((hin.2.2 i hi).2.2.2.1) d0_readsReady_15 ?_
      refine lv_iload_n hx hb d0_readsReady_16 rfl (lv_at hl 0 rfl) ?_
      refine k_ishr (v := (mt_r (P i)) >>> ((nI (r + 1)) &&& 31)) hx hb (rfl) d0_readsReady_17 ?_
      refine lv_iconst (v := 1) hx hb d0_readsReady_18 (by decide) ?_
      refine k_iand (v := ((mt_r (P i)) >>> ((nI (r + 1)) &&& 31)) &&& 1) hx hb (rfl) d0_readsReady_19 ?_
      refine lv_iconst (v := 1) hx hb d0_readsReady_20 (by decide) ?_
      refine lv_icmp_ne (tgt := 34) hx hb d0_readsReady_21 (by decide) (fun hc => ?_) (fun hc => ?_)
      · skip
        have hrd : mt_rd P (mt_tm P) i 0 (r + 1) = mt_rd P (mt_tm P) i 0 r := mt_rd_f (decide_eq_false hc)
        refine lv_iinc (k := 0) (v := nI ((r + 1) + 1)) hx hb d0_readsReady_34 hl rfl (by rw [show Int32.ofInt 1 = 1 by decide]; exact nI_1 _) (by decide) rfl (fun ls hl => ?_)
        have hl : lv_has ls 4 [(3, .int (nI ((r + 1) + 1))), (2, .int (nI (mt_rd P (mt_tm P) i 0 r))), (0, .ref h), (1, .int (nI i))] := hl
        refine lv_goto (tgt := 4) hx hb d0_readsReady_37 (by decide) ?_
        exact ih ls H locs (r + 1) (by omega) (by rw [hrd]; exact (lv_sub hl [0, 1, 2, 3] rfl)) hI
      · skip
        have hrd : mt_rd P (mt_tm P) i 0 (r + 1) = max (mt_rd P (mt_tm P) i 0 r) (mt_beh P (mt_tm P) i (r + 1)) := mt_rd_t (decide_eq_true hc)
        refine lv_iload_n hx hb d0_readsReady_24 rfl (lv_at hl 1 rfl) ?_
        refine lv_aload_n hx hb d0_readsReady_25 rfl (lv_at hl 2 rfl) ?_
        refine lv_iload_n hx hb d0_readsReady_26 rfl (lv_at hl 0 rfl) ?_
        refine kcall_i (n := 1) (u := u) (wf := kwC h ad cI cZ cG) (As := [.int (nI (r + 1))]) (b := h) (rest := [.int (nI (mt_rd P (mt_tm P) i 0 r))]) hx hb hml hown hB hK hI hA hE hZ (C0_afterReady l D cI cZ cG h ad H.size u P n hin i (r + 1) (Nat.le_of_lt hi) ht hla (by omega)) (kgV kw_190 kw_192 ks0_afterReady kw_1 kw_193) (by decide +kernel) ⟨Nat.le_of_ble_eq_true rfl, Nat.le_of_ble_eq_true rfl⟩ (va_recv (q0 := 0) (ci := 0) hK hI.1 rfl rfl) rfl hl.1 (Nat.le_of_ble_eq_true rfl) d0_readsReady_27 ⟨Nat.le_of_ble_eq_true rfl, Nat.le_of_ble_eq_true rfl⟩ rfl (fun ra xa H locs hq hI => ?_)
        obtain ⟨hv, hxu⟩ := hq
        rw [hxu] at hI
        rw [if_neg (Nat.succ_ne_zero r)] at hv
        rw [hv]
        refine k_max (v := nI (max (mt_rd P (mt_tm P) i 0 r) (mt_beh P (mt_tm P) i (r + 1)))) hx hb (hml.trans hl.1.symm) hown hB (Nat.le_of_ble_eq_true rfl) (Nat.le_of_ble_eq_true rfl) (Nat.le_of_ble_eq_true rfl) (Nat.le_of_ble_eq_true rfl) (kmaxN (by omega) (by omega)) d0_readsReady_30 ?_
        refine lv_istore_n hx hb d0_readsReady_33 rfl hl (by decide) rfl (fun ls hl => ?_)
        have hl : lv_has ls 4 [(2, .int (nI (max (mt_rd P (mt_tm P) i 0 r) (mt_beh P (mt_tm P) i (r + 1))))), (3, .int (nI (r + 1))), (0, .ref h), (1, .int (nI i))] := hl
        refine lv_iinc (k := 1) (v := nI ((r + 1) + 1)) hx hb d0_readsReady_34 hl rfl (by rw [show Int32.ofInt 1 = 1 by decide]; exact nI_1 _) (by decide) rfl (fun ls hl => ?_)
        have hl : lv_has ls 4 [(3, .int (nI ((r + 1) + 1))), (2, .int (nI (max (mt_rd P (mt_tm P) i 0 r) (mt_beh P (mt_tm P) i (r + 1))))), (0, .ref h), (1, .int (nI i))] := hl
        refine lv_goto (tgt := 4) hx hb d0_readsReady_37 (by decide) ?_
        exact ih ls H locs (r + 1) (by omega) (by rw [hrd]; exact (lv_sub hl [0, 1, 2, 3] rfl)) hI
set_option maxHeartbeats 4000000 in
set_option maxRecDepth 100000 in
theorem C0_readsReady (l : Launch) (D : va_G) (cI cZ cG : ClassId) (h : Nat) (ad : Nat → Nat) (sz : Nat) (u : kU) (P : Nat → kIns) (n : Nat) (hin : kIn P n u) (i : Nat) (hi : i < n) (ht : kTimes P i u) (hla : kLat P i u) : kMi l D (kty cI cZ cG) y0_readsReady (.code y0_readsReady c0_readsReady 4 (some .int)) ({ frames := 1, cells := 0, slots := 0, locals := 30 }) [.ref h, .int (nI i)] (kwC h ad cI cZ cG) u sz (fun v x => v = nI (mt_rd P (mt_tm P) i 0 15) ∧ x = u) := by
  refine Met.ofW (cc := c0_readsReady) (maxL := 4) (ret := (some .int)) (by decide) rfl ?_
  intro p e s m args below meth c s₁ B hml hv
  obtain ⟨rfl, hsz, hP, hK, hD0, hE, hZ⟩ := hv
  have hx := B.exec
  have hb := B.bytes
  have hr := B.returns
  have hts := atoms_spec (ws := Cond.code y0_readsReady c0_readsReady 4 (some .int) :: kBIG) B.pre
  have hB : ∀ w ∈ kBIG, w.before _ s = true := fun w q => hts w (List.mem_cons_of_mem _ q)
  have hown : s.vm.findClass "StageClock" = some m.cls := findClass_of_methodNamed B.named
  have hlocks := B.notSynchronized
  subst hsz
  have hD := hD0.self (sz := s.heap.size)
  generalize hAe : va_A (kwC h ad cI cZ cG u) s.heap.size = A at hD hZ ⊢
  have hA : ∀ q : Nat, s.heap.size ≤ q → A q := fun q h => by rw [← hAe]; exact Or.inr h
  have hI : kI D A s.heap (kwC h ad cI cZ cG u) s.heap [] := ⟨hP, hD, va_S.rf⟩
  have hl := lv_entry ([.ref h, .int (nI i)]) (n := 4) (Nat.le_of_ble_eq_true rfl)
  rw [lg_entry_eq]
  generalize (lg_sl ([.ref h, .int (nI i)]) ++ List.replicate (4 - (lg_sl ([.ref h, .int (nI i)])).length) Slot.unset).toArray = ls at hl ⊢
  have hl : lv_has ls 4 [(0, .ref h), (1, .int (nI i))] := hl
  refine lv_iconst (v := nI 0) hx hb d0_readsReady_0 (by decide) ?_
  refine lv_istore_n hx hb d0_readsReady_1 rfl hl (by decide) rfl (fun ls hl => ?_)
  have hl : lv_has ls 4 [(2, .int (nI 0)), (0, .ref h), (1, .int (nI i))] := hl
  refine lv_iconst (v := nI 1) hx hb d0_readsReady_2 (by decide) ?_
  refine lv_istore_n hx hb d0_readsReady_3 rfl hl (by decide) rfl (fun ls hl => ?_)
  have hl : lv_has ls 4 [(3, .int (nI 1)), (2, .int (nI 0)), (0, .ref h), (1, .int (nI i))] := hl
  refine L0_readsReady l D cI cZ cG h ad u P n hin i hi ht hla hx hb hml hown hB hK hA hE hZ (fun ls H locs hl hI => ?_) 15 ls s.heap [] 0 rfl (lv_sub hl [0, 1, 2, 3] rfl) hI
  refine lv_iload_n hx hb d0_readsReady_40 rfl (lv_at hl 1 rfl) ?_
  exact kret_i (x := u) (wf := kwC h ad cI cZ cG) hx hb hr hlocks hK hI (⟨rfl, rfl⟩) d0_readsReady_41
set_option maxHeartbeats 4000000 in
set_option maxRecDepth 100000 in
theorem C0_workOut (l : Launch) (D : va_G) (cI cZ cG : ClassId) (h : Nat) (ad : Nat → Nat) (sz : Nat) (u : kU) (P : Nat → kIns) (n : Nat) (hin : kIn P n u) (i : Nat) (hi : i < n) (ht : kTimes P i u) (hla : kLat P i u) : kMv l D (kty cI cZ cG) y0_workOut (.code y0_workOut c0_workOut 2 none) ({ frames := 2, cells := 0, slots := 0, locals := 60 }) [.ref h, .int (nI i)] (kwC h ad cI cZ cG) u sz (fun x => kRow P i x ∧ kRows i u x) := by
  refine Met.ofW (cc := c0_workOut) (maxL := 2) (ret := none) (by decide) rfl ?_
  intro p e s m args below meth c s₁ B hml hv
  obtain ⟨rfl, hsz, hP, hK, hD0, hE, hZ⟩ := hv
  have hx := B.exec
  have hb := B.bytes
  have hr := B.returns
  have hts := atoms_spec (ws := Cond.code y0_workOut c0_workOut 2 none :: kBIG) B.pre
  have hB : ∀ w ∈ kBIG, w.before _ s = true := fun w q => hts w (List.mem_cons_of_mem _ q)
  have hown : s.vm.findClass "StageClock" = some m.cls := findClass_of_methodNamed B.named
  have hlocks := B.notSynchronized
  subst hsz
  have hD := hD0.self (sz := s.heap.size)
  generalize hAe : va_A (kwC h ad cI cZ cG u) s.heap.size = A at hD hZ ⊢
  have hA : ∀ q : Nat, s.heap.size ≤ q → A q := fun q h => by rw [← hAe]; exact Or.inr h
  have hI : kI D A s.heap (kwC h ad cI cZ cG u) s.heap [] := ⟨hP, hD, va_S.rf⟩
  have hl := lv_entry ([.ref h, .int (nI i)]) (n := 2) (Nat.le_of_ble_eq_true rfl)
  rw [lg_entry_eq]
  generalize (lg_sl ([.ref h, .int (nI i)]) ++ List.replicate (2 - (lg_sl ([.ref h, .int (nI i)])).length) Slot.unset).toArray = ls at hl ⊢
  have hl : lv_has ls 2 [(0, .ref h), (1, .int (nI i))] := hl
  have hn := hin.2.1
  have hok : ∀ j, j ≤ i → mt_ok (P j) := fun j hj => (hin.2.2 j (by omega)).1
  have hbd := mt_bound hok
  have hoki := hok i (Nat.le_refl _)
  unfold mt_ok at hoki
  have hb1 := mt_rd_le (fun j hj => hok j (Nat.le_of_lt hj)) 0 15
  have hb2 := mt_lt_le (fun j hj => hok j (Nat.le_of_lt hj))
  have hb3 := mt_pv_le (fun j hj => hok j (Nat.le_of_lt hj))
  have hxe : mt_xe P (mt_tm P) i + 1 = (mt_tm P i).2.2.1 + mt_t (P i) := by unfold mt_xe; omega
  refine lv_aload_n hx hb d0_workOut_0 rfl (lv_at hl 0 rfl) ?_
  refine kC_g7 hx hb hB hown hK hI d0_workOut_1 ?_
  refine lv_iconst (v := nI 0) hx hb d0_workOut_4 (by decide) ?_
  refine kC_row hx hb hK hI 0 (by decide) (rfl) d0_workOut_5 ?_
  refine lv_iload_n hx hb d0_workOut_6 rfl (lv_at hl 1 rfl) ?_
  refine lv_aload_n hx hb d0_workOut_7 rfl (lv_at hl 0 rfl) ?_
  refine lv_iload_n hx hb d0_workOut_8 rfl (lv_at hl 1 rfl) ?_
  refine kcall_i (n := 1) (u := u) (wf := kwC h ad cI cZ cG) (As := [.int (nI i)]) (b := h) (rest := [.int (nI i), .ref (ad 8)]) hx hb hml hown hB hK hI hA hE hZ (C0_firstCycleInF l D cI cZ cG h ad s.heap.size u P n hin i hi ht) (kgV kw_175 kw_177 ks0_firstCycleInF kw_1 kw_178) (by decide +kernel) ⟨Nat.le_of_ble_eq_true rfl, Nat.le_of_ble_eq_true rfl⟩ (va_recv (q0 := 0) (ci := 0) hK hI.1 rfl rfl) rfl hl.1 (Nat.le_of_ble_eq_true rfl) d0_workOut_9 ⟨Nat.le_of_ble_eq_true rfl, Nat.le_of_ble_eq_true rfl⟩ rfl (fun ra xa H locs hq hI => ?_)
  obtain ⟨hv, hxu⟩ := hq
  rw [hxu] at hI
  rw [hv]
  refine kC_s8 hx hb hK hI i (by omega) (rfl) d0_workOut_12 (fun H locs hI => ?_)
  obtain ⟨u1, hu1⟩ : ∃ zz : kU, zz = kset u 8 i (nI (mt_tm P i).1) := ⟨_, rfl⟩
  rw [← hu1] at hI
  have hku1 : kRows i u u1 := by rw [hu1]; exact kRows_set kRows_rf (by decide) (by decide)
  refine lv_aload_n hx hb d0_workOut_13 rfl (lv_at hl 0 rfl) ?_
  refine kC_g7 hx hb hB hown hK hI d0_workOut_14 ?_
  refine lv_iconst (v := nI 1) hx hb d0_workOut_17 (by decide) ?_
  refine kC_row hx hb hK hI 1 (by decide) (rfl) d0_workOut_18 ?_
  refine lv_iload_n hx hb d0_workOut_19 rfl (lv_at hl 1 rfl) ?_
  refine lv_aload_n hx hb d0_workOut_20 rfl (lv_at hl 0 rfl) ?_
  refine kC_g7 hx hb hB hown hK hI d0_workOut_21 ?_
  refine lv_iconst (v := nI 0) hx hb d0_workOut_24 (by decide) ?_
  refine kC_row hx hb hK hI 0 (by decide) (rfl) d0_workOut_25 ?_
  refine lv_iload_n hx hb d0_workOut_26 rfl (lv_at hl 1 rfl) ?_
  refine kC_l8 (v := nI (mt_tm P i).1) hx hb hK hI i (by omega) (rfl) (by rw [hu1]; exact kset_eq) d0_workOut_27 ?_
  refine lv_iconst (v := nI 1) hx hb d0_workOut_28 (by decide) ?_
  refine k_iadd (v := nI ((mt_tm P i).1 + 1)) hx hb (nI_add _ _) d0_workOut_29 ?_
  refine lv_aload_n hx hb d0_workOut_30 rfl (lv_at hl 0 rfl) ?_
  refine lv_iconst (v := nI 2) hx hb d0_workOut_31 (by decide) ?_
  refine lv_iload_n hx hb d0_workOut_32 rfl (lv_at hl 1 rfl) ?_
  refine kcall_i (n := 2) (u := u1) (wf := kwC h ad cI cZ cG) (As := [.int (nI 2), .int (nI i)]) (b := h) (rest := [.int (nI ((mt_tm P i).1 + 1)), .int (nI i), .ref (ad 9)]) hx hb hml hown hB hK hI hA hE hZ (C0_timeOfPrevious l D cI cZ cG h ad H.size u1 2 i (by decide) (by omega)) (kgV kw_179 kw_181 ks0_timeOfPrevious kw_1 kw_182) (by decide +kernel) ⟨Nat.le_of_ble_eq_true rfl, Nat.le_of_ble_eq_true rfl⟩ (va_recv (q0 := 0) (ci := 0) hK hI.1 rfl rfl) rfl hl.1 (Nat.le_of_ble_eq_true rfl) d0_workOut_33 ⟨Nat.le_of_ble_eq_true rfl, Nat.le_of_ble_eq_true rfl⟩ rfl (fun ra xa H locs hq hI => ?_)
  obtain ⟨hv, hxu⟩ := hq
  rw [hxu] at hI
  rw [hku1.prev, kprev_val (f := fun j => (mt_tm P j).2.2.1) (fun a ha => (ht a (by omega)).2.2.1)] at hv
  rw [hv]
  refine k_max (v := nI (mt_tm P i).2.1) hx hb (hml.trans hl.1.symm) hown hB (Nat.le_of_ble_eq_true rfl) (Nat.le_of_ble_eq_true rfl) (Nat.le_of_ble_eq_true rfl) (Nat.le_of_ble_eq_true rfl) ((kmaxN (by omega) (by omega)).trans (by rw [mt_D_eq P i])) d0_workOut_36 ?_
  refine kC_s9 hx hb hK hI i (by omega) (rfl) d0_workOut_39 (fun H locs hI => ?_)
  obtain ⟨u2, hu2⟩ : ∃ zz : kU, zz = kset u1 9 i (nI (mt_tm P i).2.1) := ⟨_, rfl⟩
  rw [← hu2] at hI
  have hku2 : kRows i u u2 := by rw [hu2]; exact kRows_set hku1 (by decide) (by decide)
  refine lv_aload_n hx hb d0_workOut_40 rfl (lv_at hl 0 rfl) ?_
  refine kC_g7 hx hb hB hown hK hI d0_workOut_41 ?_
  refine lv_iconst (v := nI 2) hx hb d0_workOut_44 (by decide) ?_
  refine kC_row hx hb hK hI 2 (by decide) (rfl) d0_workOut_45 ?_
  refine lv_iload_n hx hb d0_workOut_46 rfl (lv_at hl 1 rfl) ?_
  refine lv_aload_n hx hb d0_workOut_47 rfl (lv_at hl 0 rfl) ?_
  refine kC_g7 hx hb hB hown hK hI d0_workOut_48 ?_
  refine lv_iconst (v := nI 1) hx hb d0_workOut_51 (by decide) ?_
  refine kC_row hx hb hK hI 1 (by decide) (rfl) d0_workOut_52 ?_
  refine lv_iload_n hx hb d0_workOut_53 rfl (lv_at hl 1 rfl) ?_
  refine kC_l9 (v := nI (mt_tm P i).2.1) hx hb hK hI i (by omega) (rfl) (by rw [hu2]; exact kset_eq) d0_workOut_54 ?_
  refine lv_iconst (v := nI 1) hx hb d0_workOut_55 (by decide) ?_
  refine k_iadd (v := nI ((mt_tm P i).2.1 + 1)) hx hb (nI_add _ _) d0_workOut_56 ?_
  refine lv_aload_n hx hb d0_workOut_57 rfl (lv_at hl 0 rfl) ?_
  refine lv_iconst (v := nI 3) hx hb d0_workOut_58 (by decide) ?_
  refine lv_iload_n hx hb d0_workOut_59 rfl (lv_at hl 1 rfl) ?_
  refine kcall_i (n := 2) (u := u2) (wf := kwC h ad cI cZ cG) (As := [.int (nI 3), .int (nI i)]) (b := h) (rest := [.int (nI ((mt_tm P i).2.1 + 1)), .int (nI i), .ref (ad 10)]) hx hb hml hown hB hK hI hA hE hZ (C0_timeOfPrevious l D cI cZ cG h ad H.size u2 3 i (by decide) (by omega)) (kgV kw_179 kw_181 ks0_timeOfPrevious kw_1 kw_182) (by decide +kernel) ⟨Nat.le_of_ble_eq_true rfl, Nat.le_of_ble_eq_true rfl⟩ (va_recv (q0 := 0) (ci := 0) hK hI.1 rfl rfl) rfl hl.1 (Nat.le_of_ble_eq_true rfl) d0_workOut_60 ⟨Nat.le_of_ble_eq_true rfl, Nat.le_of_ble_eq_true rfl⟩ rfl (fun ra xa H locs hq hI => ?_)
  obtain ⟨hv, hxu⟩ := hq
  rw [hxu] at hI
  rw [hku2.prev, kprev_val (f := fun j => (mt_tm P j).2.2.2.1) (fun a ha => (ht a (by omega)).2.2.2.1)] at hv
  rw [hv]
  refine k_max (v := nI (max ((mt_tm P i).2.1 + 1) (mt_pv i (fun j => (mt_tm P j).2.2.2.1)))) hx hb (hml.trans hl.1.symm) hown hB (Nat.le_of_ble_eq_true rfl) (Nat.le_of_ble_eq_true rfl) (Nat.le_of_ble_eq_true rfl) (Nat.le_of_ble_eq_true rfl) (kmaxN (by omega) (by omega)) d0_workOut_63 ?_
  refine lv_aload_n hx hb d0_workOut_66 rfl (lv_at hl 0 rfl) ?_
  refine lv_iload_n hx hb d0_workOut_67 rfl (lv_at hl 1 rfl) ?_
  refine kcall_i (n := 1) (u := u2) (wf := kwC h ad cI cZ cG) (As := [.int (nI i)]) (b := h) (rest := [.int (nI (max ((mt_tm P i).2.1 + 1) (mt_pv i (fun j => (mt_tm P j).2.2.2.1)))), .int (nI i), .ref (ad 10)]) hx hb hml hown hB hK hI hA hE hZ (C0_readsReady l D cI cZ cG h ad H.size u2 P n (hku2.hin hin) i hi (hku2.ht ht) (hku2.hla hla)) (kgV kw_186 kw_188 ks0_readsReady kw_1 kw_189) (by decide +kernel) ⟨Nat.le_of_ble_eq_true rfl, Nat.le_of_ble_eq_true rfl⟩ (va_recv (q0 := 0) (ci := 0) hK hI.1 rfl rfl) rfl hl.1 (Nat.le_of_ble_eq_true rfl) d0_workOut_68 ⟨Nat.le_of_ble_eq_true rfl, Nat.le_of_ble_eq_true rfl⟩ rfl (fun ra xa H locs hq hI => ?_)
  obtain ⟨hv, hxu⟩ := hq
  rw [hxu] at hI
  rw [hv]
  refine k_max (v := nI (mt_tm P i).2.2.1) hx hb (hml.trans hl.1.symm) hown hB (Nat.le_of_ble_eq_true rfl) (Nat.le_of_ble_eq_true rfl) (Nat.le_of_ble_eq_true rfl) (Nat.le_of_ble_eq_true rfl) ((kmaxN (by omega) (by omega)).trans (by rw [mt_X_eq P i])) d0_workOut_71 ?_
  refine kC_s10 hx hb hK hI i (by omega) (rfl) d0_workOut_74 (fun H locs hI => ?_)
  obtain ⟨u3, hu3⟩ : ∃ zz : kU, zz = kset u2 10 i (nI (mt_tm P i).2.2.1) := ⟨_, rfl⟩
  rw [← hu3] at hI
  have hku3 : kRows i u u3 := by rw [hu3]; exact kRows_set hku2 (by decide) (by decide)
  refine lv_aload_n hx hb d0_workOut_75 rfl (lv_at hl 0 rfl) ?_
  refine kC_g7 hx hb hB hown hK hI d0_workOut_76 ?_
  refine lv_iconst (v := nI 5) hx hb d0_workOut_79 (by decide) ?_
  refine kC_row hx hb hK hI 5 (by decide) (rfl) d0_workOut_80 ?_
  refine lv_iload_n hx hb d0_workOut_81 rfl (lv_at hl 1 rfl) ?_
  refine lv_aload_n hx hb d0_workOut_82 rfl (lv_at hl 0 rfl) ?_
  refine kC_g7 hx hb hB hown hK hI d0_workOut_83 ?_
  refine lv_iconst (v := nI 2) hx hb d0_workOut_86 (by decide) ?_
  refine kC_row hx hb hK hI 2 (by decide) (rfl) d0_workOut_87 ?_
  refine lv_iload_n hx hb d0_workOut_88 rfl (lv_at hl 1 rfl) ?_
  refine kC_l10 (v := nI (mt_tm P i).2.2.1) hx hb hK hI i (by omega) (rfl) (by rw [hu3]; exact kset_eq) d0_workOut_89 ?_
  refine lv_aload_n hx hb d0_workOut_90 rfl (lv_at hl 0 rfl) ?_
  refine kC_g0 hx hb hB hown hK hI d0_workOut_91 ?_
  refine lv_iload_n hx hb d0_workOut_94 rfl (lv_at hl 1 rfl) ?_
  refine kC_l0 (v := nI (mt_t (P i))) hx hb hK hI i (by omega) (rfl) (((hku3.hin hin).2.2 i hi).2.1) d0_workOut_95 ?_
  refine k_iadd (v := nI ((mt_tm P i).2.2.1 + (mt_t (P i)))) hx hb (nI_add _ _) d0_workOut_96 ?_
  refine lv_iconst (v := nI 1) hx hb d0_workOut_97 (by decide) ?_
  refine k_isub (v := nI (mt_xe P (mt_tm P) i)) hx hb (pk_sub (by omega)) d0_workOut_98 ?_
  refine kC_s13 hx hb hK hI i (by omega) (rfl) d0_workOut_99 (fun H locs hI => ?_)
  obtain ⟨u4, hu4⟩ : ∃ zz : kU, zz = kset u3 13 i (nI (mt_xe P (mt_tm P) i)) := ⟨_, rfl⟩
  rw [← hu4] at hI
  have hku4 : kRows i u u4 := by rw [hu4]; exact kRows_set hku3 (by decide) (by decide)
  refine lv_aload_n hx hb d0_workOut_100 rfl (lv_at hl 0 rfl) ?_
  refine kC_g7 hx hb hB hown hK hI d0_workOut_101 ?_
  refine lv_iconst (v := nI 3) hx hb d0_workOut_104 (by decide) ?_
  refine kC_row hx hb hK hI 3 (by decide) (rfl) d0_workOut_105 ?_
  refine lv_iload_n hx hb d0_workOut_106 rfl (lv_at hl 1 rfl) ?_
  refine lv_aload_n hx hb d0_workOut_107 rfl (lv_at hl 0 rfl) ?_
  refine kC_g7 hx hb hB hown hK hI d0_workOut_108 ?_
  refine lv_iconst (v := nI 5) hx hb d0_workOut_111 (by decide) ?_
  refine kC_row hx hb hK hI 5 (by decide) (rfl) d0_workOut_112 ?_
  refine lv_iload_n hx hb d0_workOut_113 rfl (lv_at hl 1 rfl) ?_
  refine kC_l13 (v := nI (mt_xe P (mt_tm P) i)) hx hb hK hI i (by omega) (rfl) (by rw [hu4]; exact kset_eq) d0_workOut_114 ?_
  refine lv_iconst (v := nI 1) hx hb d0_workOut_115 (by decide) ?_
  refine k_iadd (v := nI ((mt_xe P (mt_tm P) i) + 1)) hx hb (nI_add _ _) d0_workOut_116 ?_
  refine lv_aload_n hx hb d0_workOut_117 rfl (lv_at hl 0 rfl) ?_
  refine lv_iconst (v := nI 4) hx hb d0_workOut_118 (by decide) ?_
  refine lv_iload_n hx hb d0_workOut_119 rfl (lv_at hl 1 rfl) ?_
  refine kcall_i (n := 2) (u := u4) (wf := kwC h ad cI cZ cG) (As := [.int (nI 4), .int (nI i)]) (b := h) (rest := [.int (nI ((mt_xe P (mt_tm P) i) + 1)), .int (nI i), .ref (ad 11)]) hx hb hml hown hB hK hI hA hE hZ (C0_timeOfPrevious l D cI cZ cG h ad H.size u4 4 i (by decide) (by omega)) (kgV kw_179 kw_181 ks0_timeOfPrevious kw_1 kw_182) (by decide +kernel) ⟨Nat.le_of_ble_eq_true rfl, Nat.le_of_ble_eq_true rfl⟩ (va_recv (q0 := 0) (ci := 0) hK hI.1 rfl rfl) rfl hl.1 (Nat.le_of_ble_eq_true rfl) d0_workOut_120 ⟨Nat.le_of_ble_eq_true rfl, Nat.le_of_ble_eq_true rfl⟩ rfl (fun ra xa H locs hq hI => ?_)
  obtain ⟨hv, hxu⟩ := hq
  rw [hxu] at hI
  rw [hku4.prev, kprev_val (f := fun j => (mt_tm P j).2.2.2.2) (fun a ha => (ht a (by omega)).2.2.2.2.1)] at hv
  rw [hv]
  refine k_max (v := nI (max ((mt_xe P (mt_tm P) i) + 1) (mt_pv i (fun j => (mt_tm P j).2.2.2.2)))) hx hb (hml.trans hl.1.symm) hown hB (Nat.le_of_ble_eq_true rfl) (Nat.le_of_ble_eq_true rfl) (Nat.le_of_ble_eq_true rfl) (Nat.le_of_ble_eq_true rfl) (kmaxN (by omega) (by omega)) d0_workOut_123 ?_
  refine lv_aload_n hx hb d0_workOut_126 rfl (lv_at hl 0 rfl) ?_
  refine lv_aload_n hx hb d0_workOut_127 rfl (lv_at hl 0 rfl) ?_
  refine kC_g3 hx hb hB hown hK hI d0_workOut_128 ?_
  refine lv_iload_n hx hb d0_workOut_131 rfl (lv_at hl 1 rfl) ?_
  refine kC_l3 (v := nI (mt_l (P i))) hx hb hK hI i (by omega) (rfl) (((hku4.hin hin).2.2 i hi).2.2.2.2.1) d0_workOut_132 ?_
  refine kcall_i (n := 1) (u := u4) (wf := kwC h ad cI cZ cG) (As := [.int (nI (mt_l (P i)))]) (b := h) (rest := [.int (nI (max ((mt_xe P (mt_tm P) i) + 1) (mt_pv i (fun j => (mt_tm P j).2.2.2.2)))), .int (nI i), .ref (ad 11)]) hx hb hml hown hB hK hI hA hE hZ (C0_afterReady l D cI cZ cG h ad H.size u4 P n (hku4.hin hin) i (mt_l (P i)) (Nat.le_of_lt hi) (hku4.ht ht) (hku4.hla hla) (by omega)) (kgV kw_190 kw_192 ks0_afterReady kw_1 kw_193) (by decide +kernel) ⟨Nat.le_of_ble_eq_true rfl, Nat.le_of_ble_eq_true rfl⟩ (va_recv (q0 := 0) (ci := 0) hK hI.1 rfl rfl) rfl hl.1 (Nat.le_of_ble_eq_true rfl) d0_workOut_133 ⟨Nat.le_of_ble_eq_true rfl, Nat.le_of_ble_eq_true rfl⟩ rfl (fun ra xa H locs hq hI => ?_)
  obtain ⟨hv, hxu⟩ := hq
  rw [hxu] at hI
  have hv : ra = nI (mt_lt P (mt_tm P) i) := hv
  rw [hv]
  refine k_max (v := nI (mt_tm P i).2.2.2.1) hx hb (hml.trans hl.1.symm) hown hB (Nat.le_of_ble_eq_true rfl) (Nat.le_of_ble_eq_true rfl) (Nat.le_of_ble_eq_true rfl) (Nat.le_of_ble_eq_true rfl) ((kmaxN (by omega) (by omega)).trans (by rw [mt_M_eq P i])) d0_workOut_136 ?_
  refine kC_s11 hx hb hK hI i (by omega) (rfl) d0_workOut_139 (fun H locs hI => ?_)
  obtain ⟨u5, hu5⟩ : ∃ zz : kU, zz = kset u4 11 i (nI (mt_tm P i).2.2.2.1) := ⟨_, rfl⟩
  rw [← hu5] at hI
  have hku5 : kRows i u u5 := by rw [hu5]; exact kRows_set hku4 (by decide) (by decide)
  refine lv_aload_n hx hb d0_workOut_140 rfl (lv_at hl 0 rfl) ?_
  refine kC_g7 hx hb hB hown hK hI d0_workOut_141 ?_
  refine lv_bipush (v := nI 6) hx hb d0_workOut_144 (by decide) ?_
  refine kC_row hx hb hK hI 6 (by decide) (rfl) d0_workOut_146 ?_
  refine lv_iload_n hx hb d0_workOut_147 rfl (lv_at hl 1 rfl) ?_
  refine lv_aload_n hx hb d0_workOut_148 rfl (lv_at hl 0 rfl) ?_
  refine kC_g7 hx hb hB hown hK hI d0_workOut_149 ?_
  refine lv_iconst (v := nI 3) hx hb d0_workOut_152 (by decide) ?_
  refine kC_row hx hb hK hI 3 (by decide) (rfl) d0_workOut_153 ?_
  refine lv_iload_n hx hb d0_workOut_154 rfl (lv_at hl 1 rfl) ?_
  refine kC_l11 (v := nI (mt_tm P i).2.2.2.1) hx hb hK hI i (by omega) (rfl) (by rw [hu5]; exact kset_eq) d0_workOut_155 ?_
  refine lv_aload_n hx hb d0_workOut_156 rfl (lv_at hl 0 rfl) ?_
  refine kC_g5 hx hb hB hown hK hI d0_workOut_157 ?_
  refine lv_iload_n hx hb d0_workOut_160 rfl (lv_at hl 1 rfl) ?_
  refine kC_l5 (v := nI (mt_w (P i))) hx hb hK hI i (by omega) (rfl) (((hku5.hin hin).2.2 i hi).2.2.2.2.2.2.1) d0_workOut_161 ?_
  refine k_iadd (v := nI (mt_me P (mt_tm P) i)) hx hb (nI_add _ _) d0_workOut_162 ?_
  refine kC_s14 hx hb hK hI i (by omega) (rfl) d0_workOut_163 (fun H locs hI => ?_)
  obtain ⟨u6, hu6⟩ : ∃ zz : kU, zz = kset u5 14 i (nI (mt_me P (mt_tm P) i)) := ⟨_, rfl⟩
  rw [← hu6] at hI
  have hku6 : kRows i u u6 := by rw [hu6]; exact kRows_set hku5 (by decide) (by decide)
  refine lv_aload_n hx hb d0_workOut_164 rfl (lv_at hl 0 rfl) ?_
  refine kC_g7 hx hb hB hown hK hI d0_workOut_165 ?_
  refine lv_iconst (v := nI 4) hx hb d0_workOut_168 (by decide) ?_
  refine kC_row hx hb hK hI 4 (by decide) (rfl) d0_workOut_169 ?_
  refine lv_iload_n hx hb d0_workOut_170 rfl (lv_at hl 1 rfl) ?_
  refine lv_aload_n hx hb d0_workOut_171 rfl (lv_at hl 0 rfl) ?_
  refine kC_g7 hx hb hB hown hK hI d0_workOut_172 ?_
  refine lv_bipush (v := nI 6) hx hb d0_workOut_175 (by decide) ?_
  refine kC_row hx hb hK hI 6 (by decide) (rfl) d0_workOut_177 ?_
  refine lv_iload_n hx hb d0_workOut_178 rfl (lv_at hl 1 rfl) ?_
  refine kC_l14 (v := nI (mt_me P (mt_tm P) i)) hx hb hK hI i (by omega) (rfl) (by rw [hu6]; exact kset_eq) d0_workOut_179 ?_
  refine lv_iconst (v := nI 1) hx hb d0_workOut_180 (by decide) ?_
  refine k_iadd (v := nI (mt_tm P i).2.2.2.2) hx hb ((nI_add _ _).trans (by rw [hbd.2.2.2.2.2.2]; rfl)) d0_workOut_181 ?_
  refine kC_s12 hx hb hK hI i (by omega) (rfl) d0_workOut_182 (fun H locs hI => ?_)
  obtain ⟨u7, hu7⟩ : ∃ zz : kU, zz = kset u6 12 i (nI (mt_tm P i).2.2.2.2) := ⟨_, rfl⟩
  rw [← hu7] at hI
  have hku7 : kRows i u u7 := by rw [hu7]; exact kRows_set hku6 (by decide) (by decide)
  exact kret_v (x := u7) (wf := kwC h ad cI cZ cG) hx hb hr hlocks hK hI (⟨⟨by simp [hu7, hu6, hu5, hu4, hu3, hu2, hu1, kset, va_up, upd], by simp [hu7, hu6, hu5, hu4, hu3, hu2, hu1, kset, va_up, upd], by simp [hu7, hu6, hu5, hu4, hu3, hu2, hu1, kset, va_up, upd], by simp [hu7, hu6, hu5, hu4, hu3, hu2, hu1, kset, va_up, upd], by simp [hu7, hu6, hu5, hu4, hu3, hu2, hu1, kset, va_up, upd], by simp [hu7, hu6, hu5, hu4, hu3, hu2, hu1, kset, va_up, upd], by simp [hu7, hu6, hu5, hu4, hu3, hu2, hu1, kset, va_up, upd]⟩, hku7⟩) d0_workOut_183
set_option maxHeartbeats 4000000 in
set_option maxRecDepth 100000 in
theorem LA_fill {p : Program} {e : Env} {s : State} {m : MethodId} {args : Array Value} {below : List Frame} {meth : Method} {c : Code} {Q : State → Prop} {A : Nat → Prop} (l : Launch) (D : va_G) (cI cZ cG : ClassId) (h : Nat) (ad : Nat → Nat) (u : kU) (vv : Int32) (hx : p.tables.exec = Jvm.exec) (hb : c.code = cA_fill) (hml : c.maxLocals = 4) (hown : s.vm.findClass "java/util/Arrays" = some m.cls) (hB : ∀ w ∈ kBIG, w.before args s = true) (hK : va_K D kcl (kty cI cZ cG) s) (hA : ∀ q : Nat, s.heap.size ≤ q → A q) (hE : kE s) (hZ : kZ A s s.heap)
    (kk : ∀ (ls : Array Slot) (H : Heap) (locs : List Loc) (x : kU) (hf1 : ∀ j, j ≠ 7 → x j = u j) (hf2 : ∀ a, a < 16 → x 7 a = vv), lv_has ls 4 [(2, .int (nI 16)), (3, .int (nI 16)), (0, .ref (ad 7)), (1, .int vv)] → kI D A s.heap (kwC h ad cI cZ cG x) H locs → W p l e ({ frames := 0, cells := 0, slots := 0, locals := 0 } : Room) s m args below meth c H locs 0 0 Q (F0 m 20 ls []))
    : ∀ (d : Nat) (ls : Array Slot) (H : Heap) (locs : List Loc) (k : Nat) (x : kU) (hd : k + d = 16) (hf1 : ∀ j, j ≠ 7 → x j = u j) (hf2 : ∀ a, a < k → x 7 a = vv), lv_has ls 4 [(2, .int (nI k)), (3, .int (nI 16)), (0, .ref (ad 7)), (1, .int vv)] → kI D A s.heap (kwC h ad cI cZ cG x) H locs → W p l e ({ frames := 0, cells := 0, slots := 0, locals := 0 } : Room) s m args below meth c H locs 0 0 Q (F0 m 5 ls []) := by
  intro d
  induction d with
  | zero =>
    intro ls H locs k x hd hf1 hf2 hl hI
    obtain rfl : k = 16 := by omega
    refine lv_iload_n hx hb dA_fill_5 rfl (lv_at hl 0 rfl) ?_
    refine lv_iload_n hx hb dA_fill_6 rfl (lv_at hl 1 rfl) ?_
    refine lv_icmp_ge (tgt := 20) hx hb dA_fill_7 (by decide) (fun hc => ?_) (fun hc => ?_)
    · skip
      exact kk ls H locs x hf1 hf2 hl hI
    · exact absurd (nI_le (Nat.le_refl 16) (by decide)) hc
  | succ d ih =>
    intro ls H locs k x hd hf1 hf2 hl hI
    refine lv_iload_n hx hb dA_fill_5 rfl (lv_at hl 0 rfl) ?_
    refine lv_iload_n hx hb dA_fill_6 rfl (lv_at hl 1 rfl) ?_
    refine lv_icmp_ge (tgt := 20) hx hb dA_fill_7 (by decide) (fun hc => ?_) (fun hc => ?_)
    · exact absurd hc (nI_ge (by omega) (by decide))
    · skip
      refine lv_aload_n hx hb dA_fill_10 rfl (lv_at hl 2 rfl) ?_
      refine lv_iload_n hx hb dA_fill_11 rfl (lv_at hl 0 rfl) ?_
      refine lv_iload_n hx hb dA_fill_12 rfl (lv_at hl 3 rfl) ?_
      refine kC_s7 hx hb hK hI k (by omega) (rfl) dA_fill_13 (fun H locs hI => ?_)
      refine lv_iinc (k := 0) (v := nI (k + 1)) hx hb dA_fill_14 hl rfl (by rw [show Int32.ofInt 1 = 1 by decide]; exact nI_1 _) (by decide) rfl (fun ls hl => ?_)
      have hl : lv_has ls 4 [(2, .int (nI (k + 1))), (3, .int (nI 16)), (0, .ref (ad 7)), (1, .int vv)] := hl
      refine lv_goto (tgt := 5) hx hb dA_fill_17 (by decide) ?_
      exact ih ls H locs (k + 1) _ (by omega) (fun j hj => (va_up_ne _ _ hj).trans (hf1 j hj)) (kfill_s hf2) (lv_sub hl [0, 1, 2, 3] rfl) hI
set_option maxHeartbeats 4000000 in
set_option maxRecDepth 100000 in
theorem CA_fill (l : Launch) (D : va_G) (cI cZ cG : ClassId) (h : Nat) (ad : Nat → Nat) (sz : Nat) (u : kU) (vv : Int32) : kMv l D (kty cI cZ cG) yA_fill (.code yA_fill cA_fill 4 none) ({ frames := 0, cells := 0, slots := 0, locals := 0 }) [.ref (ad 7), .int vv] (kwC h ad cI cZ cG) u sz (fun x => (∀ j, j ≠ 7 → x j = u j) ∧ ∀ k, k < 16 → x 7 k = vv) := by
  refine Met.ofW (cc := cA_fill) (maxL := 4) (ret := none) (by decide) rfl ?_
  intro p e s m args below meth c s₁ B hml hv
  obtain ⟨rfl, hsz, hP, hK, hD0, hE, hZ⟩ := hv
  have hx := B.exec
  have hb := B.bytes
  have hr := B.returns
  have hts := atoms_spec (ws := Cond.code yA_fill cA_fill 4 none :: kBIG) B.pre
  have hB : ∀ w ∈ kBIG, w.before _ s = true := fun w q => hts w (List.mem_cons_of_mem _ q)
  have hown : s.vm.findClass "java/util/Arrays" = some m.cls := findClass_of_methodNamed B.named
  have hlocks := B.notSynchronized
  subst hsz
  have hD := hD0.self (sz := s.heap.size)
  generalize hAe : va_A (kwC h ad cI cZ cG u) s.heap.size = A at hD hZ ⊢
  have hA : ∀ q : Nat, s.heap.size ≤ q → A q := fun q h => by rw [← hAe]; exact Or.inr h
  have hI : kI D A s.heap (kwC h ad cI cZ cG u) s.heap [] := ⟨hP, hD, va_S.rf⟩
  have hl := lv_entry ([.ref (ad 7), .int vv]) (n := 4) (Nat.le_of_ble_eq_true rfl)
  rw [lg_entry_eq]
  generalize (lg_sl ([.ref (ad 7), .int vv]) ++ List.replicate (4 - (lg_sl ([.ref (ad 7), .int vv])).length) Slot.unset).toArray = ls at hl ⊢
  have hl : lv_has ls 4 [(0, .ref (ad 7)), (1, .int vv)] := hl
  refine lv_iconst (v := nI 0) hx hb dA_fill_0 (by decide) ?_
  refine lv_istore_n hx hb dA_fill_1 rfl hl (by decide) rfl (fun ls hl => ?_)
  have hl : lv_has ls 4 [(2, .int (nI 0)), (0, .ref (ad 7)), (1, .int vv)] := hl
  refine lv_aload_n hx hb dA_fill_2 rfl (lv_at hl 1 rfl) ?_
  refine va_alen (v := nI 16) hx hb hK hI.1 8 0 rfl rfl rfl dA_fill_3 ?_
  refine lv_istore_n hx hb dA_fill_4 rfl hl (by decide) rfl (fun ls hl => ?_)
  have hl : lv_has ls 4 [(3, .int (nI 16)), (2, .int (nI 0)), (0, .ref (ad 7)), (1, .int vv)] := hl
  refine LA_fill l D cI cZ cG h ad u vv hx hb hml hown hB hK hA hE hZ (fun ls H locs x hf1 hf2 hl hI => ?_) 16 ls s.heap [] 0 u rfl (fun _ _ => rfl) (fun a ha => absurd ha (Nat.not_lt_zero a)) (lv_sub hl [1, 0, 2, 3] rfl) hI
  exact kret_v (x := x) (wf := kwC h ad cI cZ cG) hx hb hr hlocks hK hI (⟨hf1, hf2⟩) dA_fill_20
set_option maxHeartbeats 4000000 in
set_option maxRecDepth 100000 in
theorem L0_workOutFrom1 {p : Program} {e : Env} {s : State} {m : MethodId} {args : Array Value} {below : List Frame} {meth : Method} {c : Code} {Q : State → Prop} {A : Nat → Prop} (l : Launch) (D : va_G) (cI cZ cG : ClassId) (h : Nat) (ad : Nat → Nat) (u : kU) (P : Nat → kIns) (n : Nat) (hin : kIn P n u) (f : Nat) (hf : f ≤ n) (hx : p.tables.exec = Jvm.exec) (hb : c.code = c0_workOutFrom) (hml : c.maxLocals = 3) (hown : s.vm.findClass "StageClock" = some m.cls) (hB : ∀ w ∈ kBIG, w.before args s = true) (hK : va_K D kcl (kty cI cZ cG) s) (hA : ∀ q : Nat, s.heap.size ≤ q → A q) (hE : kE s) (hZ : kZ A s s.heap)
    (kk : ∀ (ls : Array Slot) (H : Heap) (locs : List Loc) (x : kU) (hxj : ∀ j, j ≠ 7 → x j = u j) (hla : kLat P f x), lv_has ls 3 [(2, .int (nI f)), (0, .ref h), (1, .int (nI f))] → kI D A s.heap (kwC h ad cI cZ cG x) H locs → W p l e ({ frames := 3, cells := 0, slots := 0, locals := 90 } : Room) s m args below meth c H locs 0 0 Q (F0 m 26 ls []))
    : ∀ (d : Nat) (ls : Array Slot) (H : Heap) (locs : List Loc) (i : Nat) (x : kU) (hd : i + d = f) (hxj : ∀ j, j ≠ 7 → x j = u j) (hla : kLat P i x), lv_has ls 3 [(2, .int (nI i)), (0, .ref h), (1, .int (nI f))] → kI D A s.heap (kwC h ad cI cZ cG x) H locs → W p l e ({ frames := 3, cells := 0, slots := 0, locals := 90 } : Room) s m args below meth c H locs 0 0 Q (F0 m 10 ls []) := by
  have hn := hin.2.1
  intro d
  induction d with
  | zero =>
    intro ls H locs i x hd hxj hla hl hI
    obtain rfl : i = f := by omega
    refine lv_iload_n hx hb d0_workOutFrom_10 rfl (lv_at hl 0 rfl) ?_
    refine lv_iload_n hx hb d0_workOutFrom_11 rfl (lv_at hl 2 rfl) ?_
    refine lv_icmp_ge (tgt := 26) hx hb d0_workOutFrom_12 (by decide) (fun hc => ?_) (fun hc => ?_)
    · skip
      exact kk ls H locs x hxj hla hl hI
    · exact absurd (nI_le (Nat.le_refl _) (by omega)) hc
  | succ d ih =>
    intro ls H locs i x hd hxj hla hl hI
    refine lv_iload_n hx hb d0_workOutFrom_10 rfl (lv_at hl 0 rfl) ?_
    refine lv_iload_n hx hb d0_workOutFrom_11 rfl (lv_at hl 2 rfl) ?_
    refine lv_icmp_ge (tgt := 26) hx hb d0_workOutFrom_12 (by decide) (fun hc => ?_) (fun hc => ?_)
    · exact absurd hc (nI_ge (by omega) (by omega))
    · skip
      refine lv_aload_n hx hb d0_workOutFrom_15 rfl (lv_at hl 1 rfl) ?_
      refine lv_iload_n hx hb d0_workOutFrom_16 rfl (lv_at hl 0 rfl) ?_
      refine kcall_v (n := 1) (u := x) (wf := kwC h ad cI cZ cG) (As := [.int (nI i)]) (b := h) (rest := []) hx hb hml hown hB hK hI hA hE hZ (C0_noteGiver l D cI cZ cG h ad H.size x P n (kIn_off hxj hin) i (by omega) hla) (kgV kw_167 kw_169 ks0_noteGiver kw_1 kw_170) (by decide +kernel) ⟨Nat.le_of_ble_eq_true rfl, Nat.le_of_ble_eq_true rfl⟩ (va_recv (q0 := 0) (ci := 0) hK hI.1 rfl rfl) rfl hl.1 (Nat.le_of_ble_eq_true rfl) d0_workOutFrom_17 ⟨Nat.le_of_ble_eq_true rfl, Nat.le_of_ble_eq_true rfl⟩ rfl (fun xa H locs hq hI => ?_)
      obtain ⟨hla2, hx2⟩ := hq
      refine lv_iinc (k := 0) (v := nI (i + 1)) hx hb d0_workOutFrom_20 hl rfl (by rw [show Int32.ofInt 1 = 1 by decide]; exact nI_1 _) (by decide) rfl (fun ls hl => ?_)
      have hl : lv_has ls 3 [(2, .int (nI (i + 1))), (0, .ref h), (1, .int (nI f))] := hl
      refine lv_goto (tgt := 10) hx hb d0_workOutFrom_23 (by decide) ?_
      exact ih ls H locs (i + 1) xa (by omega) (fun j hj => (hx2 j hj).trans (hxj j hj)) hla2 (lv_sub hl [0, 1, 2] rfl) hI
set_option maxHeartbeats 4000000 in
set_option maxRecDepth 100000 in
theorem L0_workOutFrom2 {p : Program} {e : Env} {s : State} {m : MethodId} {args : Array Value} {below : List Frame} {meth : Method} {c : Code} {Q : State → Prop} {A : Nat → Prop} (l : Launch) (D : va_G) (cI cZ cG : ClassId) (h : Nat) (ad : Nat → Nat) (P : Nat → kIns) (n : Nat) (f : Nat) (hx : p.tables.exec = Jvm.exec) (hb : c.code = c0_workOutFrom) (hml : c.maxLocals = 3) (hown : s.vm.findClass "StageClock" = some m.cls) (hB : ∀ w ∈ kBIG, w.before args s = true) (hK : va_K D kcl (kty cI cZ cG) s) (hA : ∀ q : Nat, s.heap.size ≤ q → A q) (hE : kE s) (hZ : kZ A s s.heap)
    (kk : ∀ (ls : Array Slot) (H : Heap) (locs : List Loc) (x : kU) (hin : kIn P n x) (ht : kTimes P n x), lv_has ls 3 [(2, .int (nI n)), (0, .ref h), (1, .int (nI f))] → kI D A s.heap (kwC h ad cI cZ cG x) H locs → W p l e ({ frames := 3, cells := 0, slots := 0, locals := 90 } : Room) s m args below meth c H locs 0 0 Q (F0 m 52 ls []))
    : ∀ (d : Nat) (ls : Array Slot) (H : Heap) (locs : List Loc) (i : Nat) (x : kU) (hd : i + d = n) (hin : kIn P n x) (ht : kTimes P i x) (hla : kLat P i x), lv_has ls 3 [(2, .int (nI i)), (0, .ref h), (1, .int (nI f))] → kI D A s.heap (kwC h ad cI cZ cG x) H locs → W p l e ({ frames := 3, cells := 0, slots := 0, locals := 90 } : Room) s m args below meth c H locs 0 0 Q (F0 m 28 ls []) := by
  intro d
  induction d with
  | zero =>
    intro ls H locs i x hd hin ht hla hl hI
    obtain rfl : i = n := by omega
    have hn := hin.2.1
    refine lv_iload_n hx hb d0_workOutFrom_28 rfl (lv_at hl 0 rfl) ?_
    refine lv_aload_n hx hb d0_workOutFrom_29 rfl (lv_at hl 1 rfl) ?_
    refine kC_g9 hx hb hB hown hK hI d0_workOutFrom_30 ?_
    rw [show x 15 0 = nI i from hin.1]
    refine lv_icmp_ge (tgt := 52) hx hb d0_workOutFrom_33 (by decide) (fun hc => ?_) (fun hc => ?_)
    · skip
      exact kk ls H locs x hin ht hl hI
    · exact absurd (nI_le (Nat.le_refl _) (by omega)) hc
  | succ d ih =>
    intro ls H locs i x hd hin ht hla hl hI
    have hn := hin.2.1
    refine lv_iload_n hx hb d0_workOutFrom_28 rfl (lv_at hl 0 rfl) ?_
    refine lv_aload_n hx hb d0_workOutFrom_29 rfl (lv_at hl 1 rfl) ?_
    refine kC_g9 hx hb hB hown hK hI d0_workOutFrom_30 ?_
    rw [show x 15 0 = nI n from hin.1]
    refine lv_icmp_ge (tgt := 52) hx hb d0_workOutFrom_33 (by decide) (fun hc => ?_) (fun hc => ?_)
    · exact absurd hc (nI_ge (by omega) (by omega))
    · skip
      refine lv_aload_n hx hb d0_workOutFrom_36 rfl (lv_at hl 1 rfl) ?_
      refine lv_iload_n hx hb d0_workOutFrom_37 rfl (lv_at hl 0 rfl) ?_
      refine kcall_v (n := 1) (u := x) (wf := kwC h ad cI cZ cG) (As := [.int (nI i)]) (b := h) (rest := []) hx hb hml hown hB hK hI hA hE hZ (C0_workOut l D cI cZ cG h ad H.size x P n hin i (by omega) ht hla) (kgV kw_171 kw_173 ks0_workOut kw_1 kw_174) (by decide +kernel) ⟨Nat.le_of_ble_eq_true rfl, Nat.le_of_ble_eq_true rfl⟩ (va_recv (q0 := 0) (ci := 0) hK hI.1 rfl rfl) rfl hl.1 (Nat.le_of_ble_eq_true rfl) d0_workOutFrom_38 ⟨Nat.le_of_ble_eq_true rfl, Nat.le_of_ble_eq_true rfl⟩ rfl (fun xa H locs hq hI => ?_)
      obtain ⟨hrow, hro⟩ := hq
      obtain ⟨x2, hx2⟩ : ∃ z, z = xa := ⟨_, rfl⟩
      rw [← hx2] at hI hrow hro
      refine lv_aload_n hx hb d0_workOutFrom_41 rfl (lv_at hl 1 rfl) ?_
      refine lv_iload_n hx hb d0_workOutFrom_42 rfl (lv_at hl 0 rfl) ?_
      refine kcall_v (n := 1) (u := x2) (wf := kwC h ad cI cZ cG) (As := [.int (nI i)]) (b := h) (rest := []) hx hb hml hown hB hK hI hA hE hZ (C0_noteGiver l D cI cZ cG h ad H.size x2 P n (hro.hin hin) i (by omega) (hro.hla hla)) (kgV kw_167 kw_169 ks0_noteGiver kw_1 kw_170) (by decide +kernel) ⟨Nat.le_of_ble_eq_true rfl, Nat.le_of_ble_eq_true rfl⟩ (va_recv (q0 := 0) (ci := 0) hK hI.1 rfl rfl) rfl hl.1 (Nat.le_of_ble_eq_true rfl) d0_workOutFrom_43 ⟨Nat.le_of_ble_eq_true rfl, Nat.le_of_ble_eq_true rfl⟩ rfl (fun xa H locs hq hI => ?_)
      obtain ⟨hla2, hx3⟩ := hq
      refine lv_iinc (k := 0) (v := nI (i + 1)) hx hb d0_workOutFrom_46 hl rfl (by rw [show Int32.ofInt 1 = 1 by decide]; exact nI_1 _) (by decide) rfl (fun ls hl => ?_)
      have hl : lv_has ls 3 [(2, .int (nI (i + 1))), (0, .ref h), (1, .int (nI f))] := hl
      refine lv_goto (tgt := 28) hx hb d0_workOutFrom_49 (by decide) ?_
      exact ih ls H locs (i + 1) xa (by omega) (kIn_off hx3 (hro.hin hin)) (kTimes_off hx3 (hro.step ht hrow)) hla2 (lv_sub hl [0, 1, 2] rfl) hI
set_option maxHeartbeats 4000000 in
set_option maxRecDepth 100000 in
theorem C0_workOutFrom (l : Launch) (D : va_G) (cI cZ cG : ClassId) (h : Nat) (ad : Nat → Nat) (sz : Nat) (u : kU) (P : Nat → kIns) (n : Nat) (hin : kIn P n u) (f : Nat) (hf : f ≤ n) (ht : kTimes P f u) : kMv l D (kty cI cZ cG) y0_workOutFrom (.code y0_workOutFrom c0_workOutFrom 3 none) ({ frames := 3, cells := 0, slots := 0, locals := 90 }) [.ref h, .int (nI f)] (kwC h ad cI cZ cG) u sz (fun x => kIn P n x ∧ kTimes P n x) := by
  refine Met.ofW (cc := c0_workOutFrom) (maxL := 3) (ret := none) (by decide) rfl ?_
  intro p e s m args below meth c s₁ B hml hv
  obtain ⟨rfl, hsz, hP, hK, hD0, hE, hZ⟩ := hv
  have hx := B.exec
  have hb := B.bytes
  have hr := B.returns
  have hts := atoms_spec (ws := Cond.code y0_workOutFrom c0_workOutFrom 3 none :: kBIG) B.pre
  have hB : ∀ w ∈ kBIG, w.before _ s = true := fun w q => hts w (List.mem_cons_of_mem _ q)
  have hown : s.vm.findClass "StageClock" = some m.cls := findClass_of_methodNamed B.named
  have hlocks := B.notSynchronized
  subst hsz
  have hD := hD0.self (sz := s.heap.size)
  generalize hAe : va_A (kwC h ad cI cZ cG u) s.heap.size = A at hD hZ ⊢
  have hA : ∀ q : Nat, s.heap.size ≤ q → A q := fun q h => by rw [← hAe]; exact Or.inr h
  have hI : kI D A s.heap (kwC h ad cI cZ cG u) s.heap [] := ⟨hP, hD, va_S.rf⟩
  have hl := lv_entry ([.ref h, .int (nI f)]) (n := 3) (Nat.le_of_ble_eq_true rfl)
  rw [lg_entry_eq]
  generalize (lg_sl ([.ref h, .int (nI f)]) ++ List.replicate (3 - (lg_sl ([.ref h, .int (nI f)])).length) Slot.unset).toArray = ls at hl ⊢
  have hl : lv_has ls 3 [(0, .ref h), (1, .int (nI f))] := hl
  have hn := hin.2.1
  refine lv_aload_n hx hb d0_workOutFrom_0 rfl (lv_at hl 0 rfl) ?_
  refine kC_g8 hx hb hB hown hK hI d0_workOutFrom_1 ?_
  refine lv_iconst (v := -1) hx hb d0_workOutFrom_4 (by decide) ?_
  refine kcall_sv (n := 2) (u := u) (wf := kwC h ad cI cZ cG) (As := [.ref (ad 7), .int (-1)]) (rest := []) hx hb hml hown hB hK hI hA hE hZ (CA_fill l D cI cZ cG h ad s.heap.size u (-1)) (kgS kw_164 kw_165 kw_8 kw_166) (by decide +kernel) ⟨Nat.le_of_ble_eq_true rfl, Nat.le_of_ble_eq_true rfl⟩ rfl hl.1 (Nat.le_of_ble_eq_true rfl) d0_workOutFrom_5 ⟨Nat.le_of_ble_eq_true rfl, Nat.le_of_ble_eq_true rfl⟩ rfl (fun xa H locs hq hI => ?_)
  obtain ⟨hf1, hf2⟩ := hq
  refine lv_iconst (v := nI 0) hx hb d0_workOutFrom_8 (by decide) ?_
  refine lv_istore_n hx hb d0_workOutFrom_9 rfl hl (by decide) rfl (fun ls hl => ?_)
  have hl : lv_has ls 3 [(2, .int (nI 0)), (0, .ref h), (1, .int (nI f))] := hl
  refine L0_workOutFrom1 l D cI cZ cG h ad u P n hin f hf hx hb hml hown hB hK hA hE hZ (fun ls H locs x hxj hla hl hI => ?_) f ls H locs 0 xa (Nat.zero_add _) hf1 (kLat_0 hf2) (lv_sub hl [0, 1, 2] rfl) hI
  refine lv_iload_n hx hb d0_workOutFrom_26 rfl (lv_at hl 2 rfl) ?_
  refine lv_istore_n hx hb d0_workOutFrom_27 rfl hl (by decide) rfl (fun ls hl => ?_)
  have hl : lv_has ls 3 [(2, .int (nI f)), (0, .ref h), (1, .int (nI f))] := hl
  refine L0_workOutFrom2 l D cI cZ cG h ad P n f hx hb hml hown hB hK hA hE hZ (fun ls H locs x hin ht hl hI => ?_) (n - f) ls H locs f x (by omega) (kIn_off hxj hin) (kTimes_off hxj ht) hla (lv_sub hl [0, 1, 2] rfl) hI
  exact kret_v (x := x) (wf := kwC h ad cI cZ cG) hx hb hr hlocks hK hI (⟨hin, ht⟩) d0_workOutFrom_52
