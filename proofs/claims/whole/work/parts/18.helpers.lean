set_option maxHeartbeats 4000000 in
set_option maxRecDepth 100000 in
theorem CL_add (l : Launch) (hl0 : l.stackTraces = false) (D : va_G) (cI cZ cG cJ : ClassId) (h : Nat) (ad : Nat → Nat) (o sz : Nat) (u : kU) (P : Nat → kIns) (n : Nat) (hst : kSt P n u) (vt vg vr vl : Int32) (ld : Bool) (vw : Int32) (wr : Bool) : kXi l D (ktz cI cZ cG cJ) yL_add (.codeWith yL_add cL_add 10 (some .int) [(0, 20, 23, 13), (0, 20, 27, 15)]) ({ frames := 8, cells := 2, slots := 12, locals := 160 }) [.ref h, .int vt, .int vg, .int vr, .int vl, .int (kb ld), .int vw, .int (kb wr), .ref o] (kwO h ad cI cZ cG cJ o) u sz (fun rc x => ∃ c P2 n2, rc = nI c ∧ oA P n vt vg vr vl ld vw wr c (x 16 0) P2 n2 ∧ kSt P2 n2 x) (fun _ => False) := by
  refine vx_ofWH (cc := cL_add) (maxL := 10) (ret := some .int) (hh := [(0, 20, 23, 13), (0, 20, 27, 15)]) (by decide) rfl ?_
  intro p e s m args below meth c s₁ B hml hv
  obtain ⟨rfl, hsz, hP, hK, hD0, hE, hZ⟩ := hv
  have hx := B.exec
  have hb := B.bytes
  have hr := B.returns
  have hts := atoms_spec (ws := Cond.codeWith yL_add cL_add 10 (some .int) [(0, 20, 23, 13), (0, 20, 27, 15)] :: kBIG) B.pre
  have htab : c.exceptionTable.toList = [⟨0, 20, 23, 13⟩, ⟨0, 20, 27, 15⟩] := vx_table (x := yL_add) B (hts _ List.mem_cons_self)
  have hB : ∀ w ∈ kBIG, w.before _ s = true := fun w q => hts w (List.mem_cons_of_mem _ q)
  have hown : s.vm.findClass "StageClockLaw" = some m.cls := findClass_of_methodNamed B.named
  have hlocks := B.notSynchronized
  subst hsz
  have hD := hD0.self (sz := s.heap.size)
  generalize hAe : va_A (kwO h ad cI cZ cG cJ o u) s.heap.size = A at hD hZ ⊢
  have hA : ∀ q : Nat, s.heap.size ≤ q → A q := fun q h => by rw [← hAe]; exact Or.inr h
  have hI : kI D A s.heap (kwC h ad cI cZ cG u ++ [(o, .inl (cJ, 1, .inr (.inl (fun j => (u 16 j).toInt64))))]) s.heap [] := ⟨hP, hD, va_S.rf⟩
  have hl := lv_entry ([.ref h, .int vt, .int vg, .int vr, .int vl, .int (kb ld), .int vw, .int (kb wr), .ref o]) (n := 10) (Nat.le_of_ble_eq_true rfl)
  rw [lg_entry_eq]
  generalize (lg_sl ([.ref h, .int vt, .int vg, .int vr, .int vl, .int (kb ld), .int vw, .int (kb wr), .ref o]) ++ List.replicate (10 - (lg_sl ([.ref h, .int vt, .int vg, .int vr, .int vl, .int (kb ld), .int vw, .int (kb wr), .ref o])).length) Slot.unset).toArray = ls at hl ⊢
  have hl : lv_has ls 10 [(0, .ref h), (1, .int vt), (2, .int vg), (3, .int vr), (4, .int vl), (5, .int (kb ld)), (6, .int vw), (7, .int (kb wr)), (8, .ref o)] := hl
  refine lv_aload hx hb dL_add_0 (lv_at hl 8 rfl) ?_
  refine lv_iconst (v := nI 0) hx hb dL_add_2 (by decide) ?_
  refine lv_aload_n hx hb dL_add_3 rfl (lv_at hl 0 rfl) ?_
  refine lv_iload_n hx hb dL_add_4 rfl (lv_at hl 1 rfl) ?_
  refine lv_iload_n hx hb dL_add_5 rfl (lv_at hl 2 rfl) ?_
  refine lv_iload_n hx hb dL_add_6 rfl (lv_at hl 3 rfl) ?_
  refine lv_iload hx hb dL_add_7 (lv_at hl 4 rfl) ?_
  refine lv_iload hx hb dL_add_9 (lv_at hl 5 rfl) ?_
  refine lv_iload hx hb dL_add_11 (lv_at hl 6 rfl) ?_
  refine lv_iload hx hb dL_add_13 (lv_at hl 7 rfl) ?_
  refine kcall_wi (n := 7) (u := u) (wf := kwC h ad cI cZ cG) (rw_ := [(o, .inl (cJ, 1, .inr (.inl (fun j => (u 16 j).toInt64))))]) (As := [.int vt, .int vg, .int vr, .int vl, .int (kb ld), .int vw, .int (kb wr)]) (b := h) (rest := [.int (nI 0), .ref o]) hx hb hml hown hB (ktz_c hK) hI hA hE hZ (C0_add l hl0 D cI cZ cG h ad s.heap.size u P n hst vt vg vr vl ld vw wr) (kgV kw_59 kw_60 ks0_add kw_1 kw_62) (by decide +kernel) ⟨Nat.le_of_ble_eq_true rfl, Nat.le_of_ble_eq_true rfl⟩ (va_recv (q0 := 0) (ci := 0) (ktz_c hK) (kI_l hI).1 rfl rfl) rfl hl.1 (Nat.le_of_ble_eq_true rfl) dL_add_15 ⟨Nat.le_of_ble_eq_true rfl, Nat.le_of_ble_eq_true rfl⟩ rfl (fun E ce q9 H locs hTE hI hce hcv hcl => ?_) (fun ra xa H locs hq hI => ?_)
  · skip
    rcases hTE with ⟨rfl, h1⟩ | ⟨rfl, h1, h2⟩
    · skip
      refine vx_catch (name := kIAE) hown [] ⟨0, 20, 23, 13⟩ [⟨0, 20, 27, 15⟩] htab (fun z hz => by cases hz) (by decide) (by decide) (hB _ kw_57) (kcast hE (List.mem_of_getElem? (i := 3) rfl)) hce hcv hcl ?_
      refine lv_astore hx hb dL_add_23 hl (by decide) rfl (fun ls hl => ?_)
      refine lv_iconst (v := nI 1) hx hb dL_add_25 (by decide) ?_
      exact kret_xi (x := u) (wf := kwO h ad cI cZ cG cJ o) (Nat.le_of_ble_eq_true rfl) (Nat.le_of_ble_eq_true rfl) hx hb hr hlocks hK hI (⟨1, P, n, rfl, Or.inl ⟨rfl, h1, rfl, rfl⟩, hst⟩) dL_add_26
    · skip
      refine vx_catch (name := kISE) hown [⟨0, 20, 23, 13⟩] ⟨0, 20, 27, 15⟩ [] htab (fun z hz => by rw [List.mem_singleton.mp hz]; exact Or.inr ⟨by decide, kIAE, hB _ kw_57, hE.2.2.1⟩) (by decide) (by decide) (hB _ kw_58) (kcast hE (List.mem_of_getElem? (i := 4) rfl)) hce hcv hcl ?_
      refine lv_astore hx hb dL_add_27 hl (by decide) rfl (fun ls hl => ?_)
      refine lv_iconst (v := nI 2) hx hb dL_add_29 (by decide) ?_
      exact kret_xi (x := u) (wf := kwO h ad cI cZ cG cJ o) (Nat.le_of_ble_eq_true rfl) (Nat.le_of_ble_eq_true rfl) hx hb hr hlocks hK hI (⟨2, P, n, rfl, Or.inr (Or.inl ⟨rfl, h1, h2, rfl, rfl⟩), hst⟩) dL_add_30
  · skip
    obtain ⟨hra, hfit, hn2, hs2⟩ := hq
    have hI : kI D A s.heap (kwO h ad cI cZ cG cJ o (va_up xa 16 (u 16))) H locs := hI
    refine lv_i2l (v := ra.toInt64) hx hb dL_add_18 rfl ?_
    refine kO_s hx hb hK hI dL_add_19 (fun H locs hI => ?_)
    refine lv_goto (tgt := 31) hx hb dL_add_20 (by decide) ?_
    refine lv_iconst (v := nI 0) hx hb dL_add_31 (by decide) ?_
    exact kret_xi (x := kset (va_up xa 16 (u 16)) 16 0 ra) (wf := kwO h ad cI cZ cG cJ o) (Nat.le_of_ble_eq_true rfl) (Nat.le_of_ble_eq_true rfl) hx hb hr hlocks hK hI (⟨0, _, n + 1, rfl, Or.inr (Or.inr ⟨rfl, hfit, hn2, kset_eq.trans hra, rfl, rfl⟩), kSt_16 (kSt_up hs2)⟩) dL_add_32
set_option maxHeartbeats 4000000 in
set_option maxRecDepth 100000 in
theorem CL_change (l : Launch) (hl0 : l.stackTraces = false) (D : va_G) (cI cZ cG cJ : ClassId) (h : Nat) (ad : Nat → Nat) (o sz : Nat) (u : kU) (P : Nat → kIns) (n : Nat) (hst : kSt P n u) (vk : Int32) (vt vg vr vl : Int32) (ld : Bool) (vw : Int32) (wr : Bool) : kXi l D (ktz cI cZ cG cJ) yL_change (.codeWith yL_change cL_change 10 (some .int) [(0, 17, 20, 13), (0, 17, 24, 21)]) ({ frames := 8, cells := 2, slots := 12, locals := 160 }) [.ref h, .int vk, .int vt, .int vg, .int vr, .int vl, .int (kb ld), .int vw, .int (kb wr)] (kwO h ad cI cZ cG cJ o) u sz (fun rc x => ∃ c P2, rc = nI c ∧ oC P n vk vt vg vr vl ld vw wr c P2 ∧ kSt P2 n x) (fun _ => False) := by
  refine vx_ofWH (cc := cL_change) (maxL := 10) (ret := some .int) (hh := [(0, 17, 20, 13), (0, 17, 24, 21)]) (by decide) rfl ?_
  intro p e s m args below meth c s₁ B hml hv
  obtain ⟨rfl, hsz, hP, hK, hD0, hE, hZ⟩ := hv
  have hx := B.exec
  have hb := B.bytes
  have hr := B.returns
  have hts := atoms_spec (ws := Cond.codeWith yL_change cL_change 10 (some .int) [(0, 17, 20, 13), (0, 17, 24, 21)] :: kBIG) B.pre
  have htab : c.exceptionTable.toList = [⟨0, 17, 20, 13⟩, ⟨0, 17, 24, 21⟩] := vx_table (x := yL_change) B (hts _ List.mem_cons_self)
  have hB : ∀ w ∈ kBIG, w.before _ s = true := fun w q => hts w (List.mem_cons_of_mem _ q)
  have hown : s.vm.findClass "StageClockLaw" = some m.cls := findClass_of_methodNamed B.named
  have hlocks := B.notSynchronized
  subst hsz
  have hD := hD0.self (sz := s.heap.size)
  generalize hAe : va_A (kwO h ad cI cZ cG cJ o u) s.heap.size = A at hD hZ ⊢
  have hA : ∀ q : Nat, s.heap.size ≤ q → A q := fun q h => by rw [← hAe]; exact Or.inr h
  have hI : kI D A s.heap (kwC h ad cI cZ cG u ++ [(o, .inl (cJ, 1, .inr (.inl (fun j => (u 16 j).toInt64))))]) s.heap [] := ⟨hP, hD, va_S.rf⟩
  have hl := lv_entry ([.ref h, .int vk, .int vt, .int vg, .int vr, .int vl, .int (kb ld), .int vw, .int (kb wr)]) (n := 10) (Nat.le_of_ble_eq_true rfl)
  rw [lg_entry_eq]
  generalize (lg_sl ([.ref h, .int vk, .int vt, .int vg, .int vr, .int vl, .int (kb ld), .int vw, .int (kb wr)]) ++ List.replicate (10 - (lg_sl ([.ref h, .int vk, .int vt, .int vg, .int vr, .int vl, .int (kb ld), .int vw, .int (kb wr)])).length) Slot.unset).toArray = ls at hl ⊢
  have hl : lv_has ls 10 [(0, .ref h), (1, .int vk), (2, .int vt), (3, .int vg), (4, .int vr), (5, .int vl), (6, .int (kb ld)), (7, .int vw), (8, .int (kb wr))] := hl
  refine lv_aload_n hx hb dL_change_0 rfl (lv_at hl 0 rfl) ?_
  refine lv_iload_n hx hb dL_change_1 rfl (lv_at hl 1 rfl) ?_
  refine lv_iload_n hx hb dL_change_2 rfl (lv_at hl 2 rfl) ?_
  refine lv_iload_n hx hb dL_change_3 rfl (lv_at hl 3 rfl) ?_
  refine lv_iload hx hb dL_change_4 (lv_at hl 4 rfl) ?_
  refine lv_iload hx hb dL_change_6 (lv_at hl 5 rfl) ?_
  refine lv_iload hx hb dL_change_8 (lv_at hl 6 rfl) ?_
  refine lv_iload hx hb dL_change_10 (lv_at hl 7 rfl) ?_
  refine lv_iload hx hb dL_change_12 (lv_at hl 8 rfl) ?_
  refine kcall_wv (n := 8) (u := u) (wf := kwC h ad cI cZ cG) (rw_ := [(o, .inl (cJ, 1, .inr (.inl (fun j => (u 16 j).toInt64))))]) (As := [.int vk, .int vt, .int vg, .int vr, .int vl, .int (kb ld), .int vw, .int (kb wr)]) (b := h) (rest := []) hx hb hml hown hB (ktz_c hK) hI hA hE hZ (C0_change l hl0 D cI cZ cG h ad s.heap.size u P n hst vk vt vg vr vl ld vw wr) (kgV kw_198 kw_199 ks0_change kw_1 kw_201) (by decide +kernel) ⟨Nat.le_of_ble_eq_true rfl, Nat.le_of_ble_eq_true rfl⟩ (va_recv (q0 := 0) (ci := 0) (ktz_c hK) (kI_l hI).1 rfl rfl) rfl hl.1 (Nat.le_of_ble_eq_true rfl) dL_change_14 ⟨Nat.le_of_ble_eq_true rfl, Nat.le_of_ble_eq_true rfl⟩ rfl (fun E ce q9 H locs hTE hI hce hcv hcl => ?_) (fun xa H locs hq hI => ?_)
  · skip
    rcases hTE with ⟨rfl, h1⟩ | ⟨rfl, h1, h2⟩
    · skip
      refine vx_catch (name := kIAE) hown [] ⟨0, 17, 20, 13⟩ [⟨0, 17, 24, 21⟩] htab (fun z hz => by cases hz) (by decide) (by decide) (hB _ kw_57) (kcast hE (List.mem_of_getElem? (i := 3) rfl)) hce hcv hcl ?_
      refine lv_astore hx hb dL_change_20 hl (by decide) rfl (fun ls hl => ?_)
      refine lv_iconst (v := nI 1) hx hb dL_change_22 (by decide) ?_
      exact kret_xi (x := u) (wf := kwO h ad cI cZ cG cJ o) (Nat.le_of_ble_eq_true rfl) (Nat.le_of_ble_eq_true rfl) hx hb hr hlocks hK hI (⟨1, P, rfl, Or.inl ⟨rfl, h1, rfl⟩, hst⟩) dL_change_23
    · skip
      refine vx_catch (name := kIOB) hown [⟨0, 17, 20, 13⟩] ⟨0, 17, 24, 21⟩ [] htab (fun z hz => by rw [List.mem_singleton.mp hz]; exact Or.inr ⟨by decide, kIAE, hB _ kw_57, hE.2.2.2⟩) (by decide) (by decide) (hB _ kw_197) (kcast hE (List.mem_of_getElem? (i := 5) rfl)) hce hcv hcl ?_
      refine lv_astore hx hb dL_change_24 hl (by decide) rfl (fun ls hl => ?_)
      refine lv_iconst (v := nI 2) hx hb dL_change_26 (by decide) ?_
      exact kret_xi (x := u) (wf := kwO h ad cI cZ cG cJ o) (Nat.le_of_ble_eq_true rfl) (Nat.le_of_ble_eq_true rfl) hx hb hr hlocks hK hI (⟨2, P, rfl, Or.inr (Or.inl ⟨rfl, h1, h2, rfl⟩), hst⟩) dL_change_27
  · skip
    obtain ⟨k, hkn, hke, hfit, hs2⟩ := hq
    have hI : kI D A s.heap (kwO h ad cI cZ cG cJ o (va_up xa 16 (u 16))) H locs := hI
    refine lv_goto (tgt := 28) hx hb dL_change_17 (by decide) ?_
    refine lv_iconst (v := nI 0) hx hb dL_change_28 (by decide) ?_
    exact kret_xi (x := va_up xa 16 (u 16)) (wf := kwO h ad cI cZ cG cJ o) (Nat.le_of_ble_eq_true rfl) (Nat.le_of_ble_eq_true rfl) hx hb hr hlocks hK hI (⟨0, _, rfl, Or.inr (Or.inr ⟨rfl, hfit, k, hkn, hke, rfl⟩), kSt_up hs2⟩) dL_change_29
set_option maxHeartbeats 4000000 in
set_option maxRecDepth 100000 in
theorem CL_cut (l : Launch) (hl0 : l.stackTraces = false) (D : va_G) (cI cZ cG cJ : ClassId) (h : Nat) (ad : Nat → Nat) (o sz : Nat) (u : kU) (P : Nat → kIns) (n : Nat) (hst : kSt P n u) (vn : Int32) : kXi l D (ktz cI cZ cG cJ) yL_cut (.codeWith yL_cut cL_cut 4 (some .int) [(0, 9, 12, 13)]) ({ frames := 8, cells := 2, slots := 12, locals := 160 }) [.ref h, .int vn, .ref o] (kwO h ad cI cZ cG cJ o) u sz (fun rc x => ∃ c n2, rc = nI c ∧ oT n vn c (x 16 0) n2 ∧ kSt P n2 x) (fun _ => False) := by
  refine vx_ofWH (cc := cL_cut) (maxL := 4) (ret := some .int) (hh := [(0, 9, 12, 13)]) (by decide) rfl ?_
  intro p e s m args below meth c s₁ B hml hv
  obtain ⟨rfl, hsz, hP, hK, hD0, hE, hZ⟩ := hv
  have hx := B.exec
  have hb := B.bytes
  have hr := B.returns
  have hts := atoms_spec (ws := Cond.codeWith yL_cut cL_cut 4 (some .int) [(0, 9, 12, 13)] :: kBIG) B.pre
  have htab : c.exceptionTable.toList = [⟨0, 9, 12, 13⟩] := vx_table (x := yL_cut) B (hts _ List.mem_cons_self)
  have hB : ∀ w ∈ kBIG, w.before _ s = true := fun w q => hts w (List.mem_cons_of_mem _ q)
  have hown : s.vm.findClass "StageClockLaw" = some m.cls := findClass_of_methodNamed B.named
  have hlocks := B.notSynchronized
  subst hsz
  have hD := hD0.self (sz := s.heap.size)
  generalize hAe : va_A (kwO h ad cI cZ cG cJ o u) s.heap.size = A at hD hZ ⊢
  have hA : ∀ q : Nat, s.heap.size ≤ q → A q := fun q h => by rw [← hAe]; exact Or.inr h
  have hI : kI D A s.heap (kwC h ad cI cZ cG u ++ [(o, .inl (cJ, 1, .inr (.inl (fun j => (u 16 j).toInt64))))]) s.heap [] := ⟨hP, hD, va_S.rf⟩
  have hl := lv_entry ([.ref h, .int vn, .ref o]) (n := 4) (Nat.le_of_ble_eq_true rfl)
  rw [lg_entry_eq]
  generalize (lg_sl ([.ref h, .int vn, .ref o]) ++ List.replicate (4 - (lg_sl ([.ref h, .int vn, .ref o])).length) Slot.unset).toArray = ls at hl ⊢
  have hl : lv_has ls 4 [(0, .ref h), (1, .int vn), (2, .ref o)] := hl
  refine lv_aload_n hx hb dL_cut_0 rfl (lv_at hl 2 rfl) ?_
  refine lv_iconst (v := nI 0) hx hb dL_cut_1 (by decide) ?_
  refine lv_aload_n hx hb dL_cut_2 rfl (lv_at hl 0 rfl) ?_
  refine lv_iload_n hx hb dL_cut_3 rfl (lv_at hl 1 rfl) ?_
  refine kcall_wi (n := 1) (u := u) (wf := kwC h ad cI cZ cG) (rw_ := [(o, .inl (cJ, 1, .inr (.inl (fun j => (u 16 j).toInt64))))]) (As := [.int vn]) (b := h) (rest := [.int (nI 0), .ref o]) hx hb hml hown hB (ktz_c hK) hI hA hE hZ (C0_cut l hl0 D cI cZ cG h ad s.heap.size u P n hst vn) (kgV kw_225 kw_226 ks0_cut kw_1 kw_228) (by decide +kernel) ⟨Nat.le_of_ble_eq_true rfl, Nat.le_of_ble_eq_true rfl⟩ (va_recv (q0 := 0) (ci := 0) (ktz_c hK) (kI_l hI).1 rfl rfl) rfl hl.1 (Nat.le_of_ble_eq_true rfl) dL_cut_4 ⟨Nat.le_of_ble_eq_true rfl, Nat.le_of_ble_eq_true rfl⟩ rfl (fun E ce q9 H locs hTE hI hce hcv hcl => ?_) (fun ra xa H locs hq hI => ?_)
  · skip
    obtain ⟨rfl, h1⟩ := hTE
    refine vx_catch (name := kIAE) hown [] ⟨0, 9, 12, 13⟩ [] htab (fun z hz => by cases hz) (by decide) (by decide) (hB _ kw_57) (kcast hE (List.mem_of_getElem? (i := 3) rfl)) hce hcv hcl ?_
    refine lv_astore_n hx hb dL_cut_12 rfl hl (by decide) rfl (fun ls hl => ?_)
    refine lv_iconst (v := nI 1) hx hb dL_cut_13 (by decide) ?_
    exact kret_xi (x := u) (wf := kwO h ad cI cZ cG cJ o) (Nat.le_of_ble_eq_true rfl) (Nat.le_of_ble_eq_true rfl) hx hb hr hlocks hK hI (⟨1, n, rfl, Or.inl ⟨rfl, h1, rfl⟩, hst⟩) dL_cut_14
  · skip
    obtain ⟨hra, k, hkn, hke, hs2⟩ := hq
    have hI : kI D A s.heap (kwO h ad cI cZ cG cJ o (va_up xa 16 (u 16))) H locs := hI
    refine lv_i2l (v := ra.toInt64) hx hb dL_cut_7 rfl ?_
    refine kO_s hx hb hK hI dL_cut_8 (fun H locs hI => ?_)
    refine lv_goto (tgt := 15) hx hb dL_cut_9 (by decide) ?_
    refine lv_iconst (v := nI 0) hx hb dL_cut_15 (by decide) ?_
    exact kret_xi (x := kset (va_up xa 16 (u 16)) 16 0 ra) (wf := kwO h ad cI cZ cG cJ o) (Nat.le_of_ble_eq_true rfl) (Nat.le_of_ble_eq_true rfl) hx hb hr hlocks hK hI (⟨0, k, rfl, Or.inr ⟨rfl, kset_eq.trans hra, hkn, hke⟩, kSt_16 (kSt_up hs2)⟩) dL_cut_16
set_option maxHeartbeats 4000000 in
set_option maxRecDepth 100000 in
theorem CL_when (l : Launch) (hl0 : l.stackTraces = false) (D : va_G) (cI cZ cG cJ : ClassId) (h : Nat) (ad : Nat → Nat) (o sz : Nat) (u : kU) (P : Nat → kIns) (n : Nat) (hst : kSt P n u) (vk vw : Int32) : kXi l D (ktz cI cZ cG cJ) yL_when (.codeWith yL_when cL_when 5 (some .int) [(0, 10, 13, 13), (0, 10, 17, 21)]) ({ frames := 8, cells := 2, slots := 12, locals := 160 }) [.ref h, .int vk, .int vw, .ref o] (kwO h ad cI cZ cG cJ o) u sz (fun rc x => ∃ c, rc = nI c ∧ oW P n vk vw c (x 16 0) ∧ kSt P n x) (fun _ => False) := by
  refine vx_ofWH (cc := cL_when) (maxL := 5) (ret := some .int) (hh := [(0, 10, 13, 13), (0, 10, 17, 21)]) (by decide) rfl ?_
  intro p e s m args below meth c s₁ B hml hv
  obtain ⟨rfl, hsz, hP, hK, hD0, hE, hZ⟩ := hv
  have hx := B.exec
  have hb := B.bytes
  have hr := B.returns
  have hts := atoms_spec (ws := Cond.codeWith yL_when cL_when 5 (some .int) [(0, 10, 13, 13), (0, 10, 17, 21)] :: kBIG) B.pre
  have htab : c.exceptionTable.toList = [⟨0, 10, 13, 13⟩, ⟨0, 10, 17, 21⟩] := vx_table (x := yL_when) B (hts _ List.mem_cons_self)
  have hB : ∀ w ∈ kBIG, w.before _ s = true := fun w q => hts w (List.mem_cons_of_mem _ q)
  have hown : s.vm.findClass "StageClockLaw" = some m.cls := findClass_of_methodNamed B.named
  have hlocks := B.notSynchronized
  subst hsz
  have hD := hD0.self (sz := s.heap.size)
  generalize hAe : va_A (kwO h ad cI cZ cG cJ o u) s.heap.size = A at hD hZ ⊢
  have hA : ∀ q : Nat, s.heap.size ≤ q → A q := fun q h => by rw [← hAe]; exact Or.inr h
  have hI : kI D A s.heap (kwC h ad cI cZ cG u ++ [(o, .inl (cJ, 1, .inr (.inl (fun j => (u 16 j).toInt64))))]) s.heap [] := ⟨hP, hD, va_S.rf⟩
  have hl := lv_entry ([.ref h, .int vk, .int vw, .ref o]) (n := 5) (Nat.le_of_ble_eq_true rfl)
  rw [lg_entry_eq]
  generalize (lg_sl ([.ref h, .int vk, .int vw, .ref o]) ++ List.replicate (5 - (lg_sl ([.ref h, .int vk, .int vw, .ref o])).length) Slot.unset).toArray = ls at hl ⊢
  have hl : lv_has ls 5 [(0, .ref h), (1, .int vk), (2, .int vw), (3, .ref o)] := hl
  refine lv_aload_n hx hb dL_when_0 rfl (lv_at hl 3 rfl) ?_
  refine lv_iconst (v := nI 0) hx hb dL_when_1 (by decide) ?_
  refine lv_aload_n hx hb dL_when_2 rfl (lv_at hl 0 rfl) ?_
  refine lv_iload_n hx hb dL_when_3 rfl (lv_at hl 1 rfl) ?_
  refine lv_iload_n hx hb dL_when_4 rfl (lv_at hl 2 rfl) ?_
  refine kcall_wi (n := 2) (u := u) (wf := kwC h ad cI cZ cG) (rw_ := [(o, .inl (cJ, 1, .inr (.inl (fun j => (u 16 j).toInt64))))]) (As := [.int vk, .int vw]) (b := h) (rest := [.int (nI 0), .ref o]) hx hb hml hown hB (ktz_c hK) hI hA hE hZ (C0_when l hl0 D cI cZ cG h ad s.heap.size u P n hst vk vw) (kgV kw_233 kw_234 ks0_when kw_1 kw_236) (by decide +kernel) ⟨Nat.le_of_ble_eq_true rfl, Nat.le_of_ble_eq_true rfl⟩ (va_recv (q0 := 0) (ci := 0) (ktz_c hK) (kI_l hI).1 rfl rfl) rfl hl.1 (Nat.le_of_ble_eq_true rfl) dL_when_5 ⟨Nat.le_of_ble_eq_true rfl, Nat.le_of_ble_eq_true rfl⟩ rfl (fun E ce q9 H locs hTE hI hce hcv hcl => ?_) (fun ra xa H locs hq hI => ?_)
  · skip
    rcases hTE with ⟨rfl, h1⟩ | ⟨rfl, h1, h2⟩
    · skip
      refine vx_catch (name := kIAE) hown [] ⟨0, 10, 13, 13⟩ [⟨0, 10, 17, 21⟩] htab (fun z hz => by cases hz) (by decide) (by decide) (hB _ kw_57) (kcast hE (List.mem_of_getElem? (i := 3) rfl)) hce hcv hcl ?_
      refine lv_astore hx hb dL_when_13 hl (by decide) rfl (fun ls hl => ?_)
      refine lv_iconst (v := nI 1) hx hb dL_when_15 (by decide) ?_
      exact kret_xi (x := u) (wf := kwO h ad cI cZ cG cJ o) (Nat.le_of_ble_eq_true rfl) (Nat.le_of_ble_eq_true rfl) hx hb hr hlocks hK hI (⟨1, rfl, Or.inl ⟨rfl, h1⟩, hst⟩) dL_when_16
    · skip
      refine vx_catch (name := kIOB) hown [⟨0, 10, 13, 13⟩] ⟨0, 10, 17, 21⟩ [] htab (fun z hz => by rw [List.mem_singleton.mp hz]; exact Or.inr ⟨by decide, kIAE, hB _ kw_57, hE.2.2.2⟩) (by decide) (by decide) (hB _ kw_197) (kcast hE (List.mem_of_getElem? (i := 5) rfl)) hce hcv hcl ?_
      refine lv_astore hx hb dL_when_17 hl (by decide) rfl (fun ls hl => ?_)
      refine lv_iconst (v := nI 2) hx hb dL_when_19 (by decide) ?_
      exact kret_xi (x := u) (wf := kwO h ad cI cZ cG cJ o) (Nat.le_of_ble_eq_true rfl) (Nat.le_of_ble_eq_true rfl) hx hb hr hlocks hK hI (⟨2, rfl, Or.inr (Or.inl ⟨rfl, h1, h2⟩), hst⟩) dL_when_20
  · skip
    obtain ⟨⟨k, j, hkn, hke, hj, hje, hra⟩, hxu⟩ := hq
    have hs2 : kSt P n xa := by rw [hxu]; exact hst
    have hI : kI D A s.heap (kwO h ad cI cZ cG cJ o (va_up xa 16 (u 16))) H locs := hI
    refine lv_i2l (v := ra.toInt64) hx hb dL_when_8 rfl ?_
    refine kO_s hx hb hK hI dL_when_9 (fun H locs hI => ?_)
    refine lv_goto (tgt := 21) hx hb dL_when_10 (by decide) ?_
    refine lv_iconst (v := nI 0) hx hb dL_when_21 (by decide) ?_
    exact kret_xi (x := kset (va_up xa 16 (u 16)) 16 0 ra) (wf := kwO h ad cI cZ cG cJ o) (Nat.le_of_ble_eq_true rfl) (Nat.le_of_ble_eq_true rfl) hx hb hr hlocks hK hI (⟨0, rfl, Or.inr (Or.inr ⟨rfl, k, j, hkn, hke, hj, hje, kset_eq.trans hra⟩), kSt_16 (kSt_up hs2)⟩) dL_when_22
set_option maxHeartbeats 4000000 in
set_option maxRecDepth 100000 in
theorem CL_in (l : Launch) (hl0 : l.stackTraces = false) (D : va_G) (cI cZ cG cJ : ClassId) (h : Nat) (ad : Nat → Nat) (o sz : Nat) (u : kU) (P : Nat → kIns) (n : Nat) (hst : kSt P n u) (vs cy : Int32) : kXi l D (ktz cI cZ cG cJ) yL_in (.codeWith yL_in cL_in 5 (some .int) [(0, 10, 13, 13)]) ({ frames := 8, cells := 2, slots := 12, locals := 160 }) [.ref h, .int vs, .int cy, .ref o] (kwO h ad cI cZ cG cJ o) u sz (fun rc x => ∃ c, rc = nI c ∧ oI P n vs cy c (x 16 0) ∧ kSt P n x) (fun _ => False) := by
  refine vx_ofWH (cc := cL_in) (maxL := 5) (ret := some .int) (hh := [(0, 10, 13, 13)]) (by decide) rfl ?_
  intro p e s m args below meth c s₁ B hml hv
  obtain ⟨rfl, hsz, hP, hK, hD0, hE, hZ⟩ := hv
  have hx := B.exec
  have hb := B.bytes
  have hr := B.returns
  have hts := atoms_spec (ws := Cond.codeWith yL_in cL_in 5 (some .int) [(0, 10, 13, 13)] :: kBIG) B.pre
  have htab : c.exceptionTable.toList = [⟨0, 10, 13, 13⟩] := vx_table (x := yL_in) B (hts _ List.mem_cons_self)
  have hB : ∀ w ∈ kBIG, w.before _ s = true := fun w q => hts w (List.mem_cons_of_mem _ q)
  have hown : s.vm.findClass "StageClockLaw" = some m.cls := findClass_of_methodNamed B.named
  have hlocks := B.notSynchronized
  subst hsz
  have hD := hD0.self (sz := s.heap.size)
  generalize hAe : va_A (kwO h ad cI cZ cG cJ o u) s.heap.size = A at hD hZ ⊢
  have hA : ∀ q : Nat, s.heap.size ≤ q → A q := fun q h => by rw [← hAe]; exact Or.inr h
  have hI : kI D A s.heap (kwC h ad cI cZ cG u ++ [(o, .inl (cJ, 1, .inr (.inl (fun j => (u 16 j).toInt64))))]) s.heap [] := ⟨hP, hD, va_S.rf⟩
  have hl := lv_entry ([.ref h, .int vs, .int cy, .ref o]) (n := 5) (Nat.le_of_ble_eq_true rfl)
  rw [lg_entry_eq]
  generalize (lg_sl ([.ref h, .int vs, .int cy, .ref o]) ++ List.replicate (5 - (lg_sl ([.ref h, .int vs, .int cy, .ref o])).length) Slot.unset).toArray = ls at hl ⊢
  have hl : lv_has ls 5 [(0, .ref h), (1, .int vs), (2, .int cy), (3, .ref o)] := hl
  refine lv_aload_n hx hb dL_in_0 rfl (lv_at hl 3 rfl) ?_
  refine lv_iconst (v := nI 0) hx hb dL_in_1 (by decide) ?_
  refine lv_aload_n hx hb dL_in_2 rfl (lv_at hl 0 rfl) ?_
  refine lv_iload_n hx hb dL_in_3 rfl (lv_at hl 1 rfl) ?_
  refine lv_iload_n hx hb dL_in_4 rfl (lv_at hl 2 rfl) ?_
  refine kcall_wi (n := 2) (u := u) (wf := kwC h ad cI cZ cG) (rw_ := [(o, .inl (cJ, 1, .inr (.inl (fun j => (u 16 j).toInt64))))]) (As := [.int vs, .int cy]) (b := h) (rest := [.int (nI 0), .ref o]) hx hb hml hown hB (ktz_c hK) hI hA hE hZ (C0_in l hl0 D cI cZ cG h ad s.heap.size u P n hst vs cy) (kgV kw_241 kw_242 ks0_in kw_1 kw_244) (by decide +kernel) ⟨Nat.le_of_ble_eq_true rfl, Nat.le_of_ble_eq_true rfl⟩ (va_recv (q0 := 0) (ci := 0) (ktz_c hK) (kI_l hI).1 rfl rfl) rfl hl.1 (Nat.le_of_ble_eq_true rfl) dL_in_5 ⟨Nat.le_of_ble_eq_true rfl, Nat.le_of_ble_eq_true rfl⟩ rfl (fun E ce q9 H locs hTE hI hce hcv hcl => ?_) (fun ra xa H locs hq hI => ?_)
  · skip
    obtain ⟨rfl, h1⟩ := hTE
    refine vx_catch (name := kIAE) hown [] ⟨0, 10, 13, 13⟩ [] htab (fun z hz => by cases hz) (by decide) (by decide) (hB _ kw_57) (kcast hE (List.mem_of_getElem? (i := 3) rfl)) hce hcv hcl ?_
    refine lv_astore hx hb dL_in_13 hl (by decide) rfl (fun ls hl => ?_)
    refine lv_iconst (v := nI 1) hx hb dL_in_15 (by decide) ?_
    exact kret_xi (x := u) (wf := kwO h ad cI cZ cG cJ o) (Nat.le_of_ble_eq_true rfl) (Nat.le_of_ble_eq_true rfl) hx hb hr hlocks hK hI (⟨1, rfl, Or.inl ⟨rfl, h1⟩, hst⟩) dL_in_16
  · skip
    obtain ⟨⟨st, hs5, hse, hra⟩, hxu⟩ := hq
    have hs2 : kSt P n xa := by rw [hxu]; exact hst
    have hI : kI D A s.heap (kwO h ad cI cZ cG cJ o (va_up xa 16 (u 16))) H locs := hI
    refine lv_i2l (v := ra.toInt64) hx hb dL_in_8 rfl ?_
    refine kO_s hx hb hK hI dL_in_9 (fun H locs hI => ?_)
    refine lv_goto (tgt := 17) hx hb dL_in_10 (by decide) ?_
    refine lv_iconst (v := nI 0) hx hb dL_in_17 (by decide) ?_
    exact kret_xi (x := kset (va_up xa 16 (u 16)) 16 0 ra) (wf := kwO h ad cI cZ cG cJ o) (Nat.le_of_ble_eq_true rfl) (Nat.le_of_ble_eq_true rfl) hx hb hr hlocks hK hI (⟨0, rfl, Or.inr ⟨rfl, st, hs5, hse, kset_eq.trans hra⟩, kSt_16 (kSt_up hs2)⟩) dL_in_18
set_option maxHeartbeats 4000000 in
set_option maxRecDepth 100000 in
theorem CL_held (l : Launch) (hl0 : l.stackTraces = false) (D : va_G) (cI cZ cG cJ : ClassId) (h : Nat) (ad : Nat → Nat) (o sz : Nat) (u : kU) (P : Nat → kIns) (n : Nat) (hst : kSt P n u) (vk : Int32) : kXi l D (ktz cI cZ cG cJ) yL_held (.codeWith yL_held cL_held 4 (some .int) [(0, 9, 12, 21)]) ({ frames := 8, cells := 2, slots := 12, locals := 160 }) [.ref h, .int vk, .ref o] (kwO h ad cI cZ cG cJ o) u sz (fun rc x => ∃ c, rc = nI c ∧ oH P n vk c (x 16 0) ∧ kSt P n x) (fun _ => False) := by
  refine vx_ofWH (cc := cL_held) (maxL := 4) (ret := some .int) (hh := [(0, 9, 12, 21)]) (by decide) rfl ?_
  intro p e s m args below meth c s₁ B hml hv
  obtain ⟨rfl, hsz, hP, hK, hD0, hE, hZ⟩ := hv
  have hx := B.exec
  have hb := B.bytes
  have hr := B.returns
  have hts := atoms_spec (ws := Cond.codeWith yL_held cL_held 4 (some .int) [(0, 9, 12, 21)] :: kBIG) B.pre
  have htab : c.exceptionTable.toList = [⟨0, 9, 12, 21⟩] := vx_table (x := yL_held) B (hts _ List.mem_cons_self)
  have hB : ∀ w ∈ kBIG, w.before _ s = true := fun w q => hts w (List.mem_cons_of_mem _ q)
  have hown : s.vm.findClass "StageClockLaw" = some m.cls := findClass_of_methodNamed B.named
  have hlocks := B.notSynchronized
  subst hsz
  have hD := hD0.self (sz := s.heap.size)
  generalize hAe : va_A (kwO h ad cI cZ cG cJ o u) s.heap.size = A at hD hZ ⊢
  have hA : ∀ q : Nat, s.heap.size ≤ q → A q := fun q h => by rw [← hAe]; exact Or.inr h
  have hI : kI D A s.heap (kwC h ad cI cZ cG u ++ [(o, .inl (cJ, 1, .inr (.inl (fun j => (u 16 j).toInt64))))]) s.heap [] := ⟨hP, hD, va_S.rf⟩
  have hl := lv_entry ([.ref h, .int vk, .ref o]) (n := 4) (Nat.le_of_ble_eq_true rfl)
  rw [lg_entry_eq]
  generalize (lg_sl ([.ref h, .int vk, .ref o]) ++ List.replicate (4 - (lg_sl ([.ref h, .int vk, .ref o])).length) Slot.unset).toArray = ls at hl ⊢
  have hl : lv_has ls 4 [(0, .ref h), (1, .int vk), (2, .ref o)] := hl
  refine lv_aload_n hx hb dL_held_0 rfl (lv_at hl 2 rfl) ?_
  refine lv_iconst (v := nI 0) hx hb dL_held_1 (by decide) ?_
  refine lv_aload_n hx hb dL_held_2 rfl (lv_at hl 0 rfl) ?_
  refine lv_iload_n hx hb dL_held_3 rfl (lv_at hl 1 rfl) ?_
  refine kcall_wi (n := 1) (u := u) (wf := kwC h ad cI cZ cG) (rw_ := [(o, .inl (cJ, 1, .inr (.inl (fun j => (u 16 j).toInt64))))]) (As := [.int vk]) (b := h) (rest := [.int (nI 0), .ref o]) hx hb hml hown hB (ktz_c hK) hI hA hE hZ (C0_held l hl0 D cI cZ cG h ad s.heap.size u P n hst vk) (kgV kw_253 kw_254 ks0_held kw_1 kw_256) (by decide +kernel) ⟨Nat.le_of_ble_eq_true rfl, Nat.le_of_ble_eq_true rfl⟩ (va_recv (q0 := 0) (ci := 0) (ktz_c hK) (kI_l hI).1 rfl rfl) rfl hl.1 (Nat.le_of_ble_eq_true rfl) dL_held_4 ⟨Nat.le_of_ble_eq_true rfl, Nat.le_of_ble_eq_true rfl⟩ rfl (fun E ce q9 H locs hTE hI hce hcv hcl => ?_) (fun ra xa H locs hq hI => ?_)
  · skip
    obtain ⟨rfl, h1⟩ := hTE
    refine vx_catch (name := kIOB) hown [] ⟨0, 9, 12, 21⟩ [] htab (fun z hz => by cases hz) (by decide) (by decide) (hB _ kw_197) (kcast hE (List.mem_of_getElem? (i := 5) rfl)) hce hcv hcl ?_
    refine lv_astore_n hx hb dL_held_12 rfl hl (by decide) rfl (fun ls hl => ?_)
    refine lv_iconst (v := nI 1) hx hb dL_held_13 (by decide) ?_
    exact kret_xi (x := u) (wf := kwO h ad cI cZ cG cJ o) (Nat.le_of_ble_eq_true rfl) (Nat.le_of_ble_eq_true rfl) hx hb hr hlocks hK hI (⟨1, rfl, Or.inl ⟨rfl, h1⟩, hst⟩) dL_held_14
  · skip
    obtain ⟨⟨k, hkn, hke, hra⟩, hxu⟩ := hq
    have hs2 : kSt P n xa := by rw [hxu]; exact hst
    have hI : kI D A s.heap (kwO h ad cI cZ cG cJ o (va_up xa 16 (u 16))) H locs := hI
    refine lv_i2l (v := ra.toInt64) hx hb dL_held_7 rfl ?_
    refine kO_s hx hb hK hI dL_held_8 (fun H locs hI => ?_)
    refine lv_goto (tgt := 15) hx hb dL_held_9 (by decide) ?_
    refine lv_iconst (v := nI 0) hx hb dL_held_15 (by decide) ?_
    exact kret_xi (x := kset (va_up xa 16 (u 16)) 16 0 ra) (wf := kwO h ad cI cZ cG cJ o) (Nat.le_of_ble_eq_true rfl) (Nat.le_of_ble_eq_true rfl) hx hb hr hlocks hK hI (⟨0, rfl, Or.inr ⟨rfl, k, hkn, hke, kset_eq.trans hra⟩, kSt_16 (kSt_up hs2)⟩) dL_held_16
set_option maxHeartbeats 4000000 in
set_option maxRecDepth 100000 in
theorem CL_giver (l : Launch) (hl0 : l.stackTraces = false) (D : va_G) (cI cZ cG cJ : ClassId) (h : Nat) (ad : Nat → Nat) (o sz : Nat) (u : kU) (P : Nat → kIns) (n : Nat) (hst : kSt P n u) (vk vr : Int32) : kXi l D (ktz cI cZ cG cJ) yL_giver (.codeWith yL_giver cL_giver 5 (some .int) [(0, 10, 13, 13), (0, 10, 17, 21)]) ({ frames := 8, cells := 2, slots := 12, locals := 160 }) [.ref h, .int vk, .int vr, .ref o] (kwO h ad cI cZ cG cJ o) u sz (fun rc x => ∃ c, rc = nI c ∧ oG P n vk vr c (x 16 0) ∧ kSt P n x) (fun _ => False) := by
  refine vx_ofWH (cc := cL_giver) (maxL := 5) (ret := some .int) (hh := [(0, 10, 13, 13), (0, 10, 17, 21)]) (by decide) rfl ?_
  intro p e s m args below meth c s₁ B hml hv
  obtain ⟨rfl, hsz, hP, hK, hD0, hE, hZ⟩ := hv
  have hx := B.exec
  have hb := B.bytes
  have hr := B.returns
  have hts := atoms_spec (ws := Cond.codeWith yL_giver cL_giver 5 (some .int) [(0, 10, 13, 13), (0, 10, 17, 21)] :: kBIG) B.pre
  have htab : c.exceptionTable.toList = [⟨0, 10, 13, 13⟩, ⟨0, 10, 17, 21⟩] := vx_table (x := yL_giver) B (hts _ List.mem_cons_self)
  have hB : ∀ w ∈ kBIG, w.before _ s = true := fun w q => hts w (List.mem_cons_of_mem _ q)
  have hown : s.vm.findClass "StageClockLaw" = some m.cls := findClass_of_methodNamed B.named
  have hlocks := B.notSynchronized
  subst hsz
  have hD := hD0.self (sz := s.heap.size)
  generalize hAe : va_A (kwO h ad cI cZ cG cJ o u) s.heap.size = A at hD hZ ⊢
  have hA : ∀ q : Nat, s.heap.size ≤ q → A q := fun q h => by rw [← hAe]; exact Or.inr h
  have hI : kI D A s.heap (kwC h ad cI cZ cG u ++ [(o, .inl (cJ, 1, .inr (.inl (fun j => (u 16 j).toInt64))))]) s.heap [] := ⟨hP, hD, va_S.rf⟩
  have hl := lv_entry ([.ref h, .int vk, .int vr, .ref o]) (n := 5) (Nat.le_of_ble_eq_true rfl)
  rw [lg_entry_eq]
  generalize (lg_sl ([.ref h, .int vk, .int vr, .ref o]) ++ List.replicate (5 - (lg_sl ([.ref h, .int vk, .int vr, .ref o])).length) Slot.unset).toArray = ls at hl ⊢
  have hl : lv_has ls 5 [(0, .ref h), (1, .int vk), (2, .int vr), (3, .ref o)] := hl
  refine lv_aload_n hx hb dL_giver_0 rfl (lv_at hl 3 rfl) ?_
  refine lv_iconst (v := nI 0) hx hb dL_giver_1 (by decide) ?_
  refine lv_aload_n hx hb dL_giver_2 rfl (lv_at hl 0 rfl) ?_
  refine lv_iload_n hx hb dL_giver_3 rfl (lv_at hl 1 rfl) ?_
  refine lv_iload_n hx hb dL_giver_4 rfl (lv_at hl 2 rfl) ?_
  refine kcall_wi (n := 2) (u := u) (wf := kwC h ad cI cZ cG) (rw_ := [(o, .inl (cJ, 1, .inr (.inl (fun j => (u 16 j).toInt64))))]) (As := [.int vk, .int vr]) (b := h) (rest := [.int (nI 0), .ref o]) hx hb hml hown hB (ktz_c hK) hI hA hE hZ (C0_giver l hl0 D cI cZ cG h ad s.heap.size u P n hst vk vr) (kgV kw_260 kw_261 ks0_giver kw_1 kw_263) (by decide +kernel) ⟨Nat.le_of_ble_eq_true rfl, Nat.le_of_ble_eq_true rfl⟩ (va_recv (q0 := 0) (ci := 0) (ktz_c hK) (kI_l hI).1 rfl rfl) rfl hl.1 (Nat.le_of_ble_eq_true rfl) dL_giver_5 ⟨Nat.le_of_ble_eq_true rfl, Nat.le_of_ble_eq_true rfl⟩ rfl (fun E ce q9 H locs hTE hI hce hcv hcl => ?_) (fun ra xa H locs hq hI => ?_)
  · skip
    rcases hTE with ⟨rfl, h1⟩ | ⟨rfl, h1, h2⟩
    · skip
      refine vx_catch (name := kIAE) hown [] ⟨0, 10, 13, 13⟩ [⟨0, 10, 17, 21⟩] htab (fun z hz => by cases hz) (by decide) (by decide) (hB _ kw_57) (kcast hE (List.mem_of_getElem? (i := 3) rfl)) hce hcv hcl ?_
      refine lv_astore hx hb dL_giver_13 hl (by decide) rfl (fun ls hl => ?_)
      refine lv_iconst (v := nI 1) hx hb dL_giver_15 (by decide) ?_
      exact kret_xi (x := u) (wf := kwO h ad cI cZ cG cJ o) (Nat.le_of_ble_eq_true rfl) (Nat.le_of_ble_eq_true rfl) hx hb hr hlocks hK hI (⟨1, rfl, Or.inl ⟨rfl, h1⟩, hst⟩) dL_giver_16
    · skip
      refine vx_catch (name := kIOB) hown [⟨0, 10, 13, 13⟩] ⟨0, 10, 17, 21⟩ [] htab (fun z hz => by rw [List.mem_singleton.mp hz]; exact Or.inr ⟨by decide, kIAE, hB _ kw_57, hE.2.2.2⟩) (by decide) (by decide) (hB _ kw_197) (kcast hE (List.mem_of_getElem? (i := 5) rfl)) hce hcv hcl ?_
      refine lv_astore hx hb dL_giver_17 hl (by decide) rfl (fun ls hl => ?_)
      refine lv_iconst (v := nI 2) hx hb dL_giver_19 (by decide) ?_
      exact kret_xi (x := u) (wf := kwO h ad cI cZ cG cJ o) (Nat.le_of_ble_eq_true rfl) (Nat.le_of_ble_eq_true rfl) hx hb hr hlocks hK hI (⟨2, rfl, Or.inr (Or.inl ⟨rfl, h1, h2⟩), hst⟩) dL_giver_20
  · skip
    obtain ⟨⟨k, r, hkn, hke, hr1, hr2, hre, hra⟩, hxu⟩ := hq
    have hs2 : kSt P n xa := by rw [hxu]; exact hst
    have hI : kI D A s.heap (kwO h ad cI cZ cG cJ o (va_up xa 16 (u 16))) H locs := hI
    refine lv_i2l (v := ra.toInt64) hx hb dL_giver_8 rfl ?_
    refine kO_s hx hb hK hI dL_giver_9 (fun H locs hI => ?_)
    refine lv_goto (tgt := 21) hx hb dL_giver_10 (by decide) ?_
    refine lv_iconst (v := nI 0) hx hb dL_giver_21 (by decide) ?_
    exact kret_xi (x := kset (va_up xa 16 (u 16)) 16 0 ra) (wf := kwO h ad cI cZ cG cJ o) (Nat.le_of_ble_eq_true rfl) (Nat.le_of_ble_eq_true rfl) hx hb hr hlocks hK hI (⟨0, rfl, Or.inr (Or.inr ⟨rfl, k, r, hkn, hke, hr1, hr2, hre, kset_eq.trans hra⟩), kSt_16 (kSt_up hs2)⟩) dL_giver_22
set_option maxHeartbeats 4000000 in
set_option maxRecDepth 100000 in
theorem CL_count (l : Launch) (hl0 : l.stackTraces = false) (D : va_G) (cI cZ cG cJ : ClassId) (h : Nat) (ad : Nat → Nat) (o sz : Nat) (u : kU) (P : Nat → kIns) (n : Nat) (hst : kSt P n u) (vw : Int32) : kXi l D (ktz cI cZ cG cJ) yL_count (.codeWith yL_count cL_count 4 (some .int) [(0, 9, 12, 13)]) ({ frames := 8, cells := 2, slots := 12, locals := 160 }) [.ref h, .int vw, .ref o] (kwO h ad cI cZ cG cJ o) u sz (fun rc x => ∃ c, rc = nI c ∧ oN P n vw c (x 16 0) ∧ kSt P n x) (fun _ => False) := by
  refine vx_ofWH (cc := cL_count) (maxL := 4) (ret := some .int) (hh := [(0, 9, 12, 13)]) (by decide) rfl ?_
  intro p e s m args below meth c s₁ B hml hv
  obtain ⟨rfl, hsz, hP, hK, hD0, hE, hZ⟩ := hv
  have hx := B.exec
  have hb := B.bytes
  have hr := B.returns
  have hts := atoms_spec (ws := Cond.codeWith yL_count cL_count 4 (some .int) [(0, 9, 12, 13)] :: kBIG) B.pre
  have htab : c.exceptionTable.toList = [⟨0, 9, 12, 13⟩] := vx_table (x := yL_count) B (hts _ List.mem_cons_self)
  have hB : ∀ w ∈ kBIG, w.before _ s = true := fun w q => hts w (List.mem_cons_of_mem _ q)
  have hown : s.vm.findClass "StageClockLaw" = some m.cls := findClass_of_methodNamed B.named
  have hlocks := B.notSynchronized
  subst hsz
  have hD := hD0.self (sz := s.heap.size)
  generalize hAe : va_A (kwO h ad cI cZ cG cJ o u) s.heap.size = A at hD hZ ⊢
  have hA : ∀ q : Nat, s.heap.size ≤ q → A q := fun q h => by rw [← hAe]; exact Or.inr h
  have hI : kI D A s.heap (kwC h ad cI cZ cG u ++ [(o, .inl (cJ, 1, .inr (.inl (fun j => (u 16 j).toInt64))))]) s.heap [] := ⟨hP, hD, va_S.rf⟩
  have hl := lv_entry ([.ref h, .int vw, .ref o]) (n := 4) (Nat.le_of_ble_eq_true rfl)
  rw [lg_entry_eq]
  generalize (lg_sl ([.ref h, .int vw, .ref o]) ++ List.replicate (4 - (lg_sl ([.ref h, .int vw, .ref o])).length) Slot.unset).toArray = ls at hl ⊢
  have hl : lv_has ls 4 [(0, .ref h), (1, .int vw), (2, .ref o)] := hl
  refine lv_aload_n hx hb dL_count_0 rfl (lv_at hl 2 rfl) ?_
  refine lv_iconst (v := nI 0) hx hb dL_count_1 (by decide) ?_
  refine lv_aload_n hx hb dL_count_2 rfl (lv_at hl 0 rfl) ?_
  refine lv_iload_n hx hb dL_count_3 rfl (lv_at hl 1 rfl) ?_
  refine kcall_wi (n := 1) (u := u) (wf := kwC h ad cI cZ cG) (rw_ := [(o, .inl (cJ, 1, .inr (.inl (fun j => (u 16 j).toInt64))))]) (As := [.int vw]) (b := h) (rest := [.int (nI 0), .ref o]) hx hb hml hown hB (ktz_c hK) hI hA hE hZ (C0_count l hl0 D cI cZ cG h ad s.heap.size u P n hst vw) (kgV kw_268 kw_269 ks0_count kw_1 kw_271) (by decide +kernel) ⟨Nat.le_of_ble_eq_true rfl, Nat.le_of_ble_eq_true rfl⟩ (va_recv (q0 := 0) (ci := 0) (ktz_c hK) (kI_l hI).1 rfl rfl) rfl hl.1 (Nat.le_of_ble_eq_true rfl) dL_count_4 ⟨Nat.le_of_ble_eq_true rfl, Nat.le_of_ble_eq_true rfl⟩ rfl (fun E ce q9 H locs hTE hI hce hcv hcl => ?_) (fun ra xa H locs hq hI => ?_)
  · skip
    obtain ⟨rfl, h1⟩ := hTE
    refine vx_catch (name := kIAE) hown [] ⟨0, 9, 12, 13⟩ [] htab (fun z hz => by cases hz) (by decide) (by decide) (hB _ kw_57) (kcast hE (List.mem_of_getElem? (i := 3) rfl)) hce hcv hcl ?_
    refine lv_astore_n hx hb dL_count_12 rfl hl (by decide) rfl (fun ls hl => ?_)
    refine lv_iconst (v := nI 1) hx hb dL_count_13 (by decide) ?_
    exact kret_xi (x := u) (wf := kwO h ad cI cZ cG cJ o) (Nat.le_of_ble_eq_true rfl) (Nat.le_of_ble_eq_true rfl) hx hb hr hlocks hK hI (⟨1, rfl, Or.inl ⟨rfl, h1⟩, hst⟩) dL_count_14
  · skip
    obtain ⟨⟨j, hj, hje, hra⟩, hxu⟩ := hq
    have hs2 : kSt P n xa := by rw [hxu]; exact hst
    have hI : kI D A s.heap (kwO h ad cI cZ cG cJ o (va_up xa 16 (u 16))) H locs := hI
    refine lv_i2l (v := ra.toInt64) hx hb dL_count_7 rfl ?_
    refine kO_s hx hb hK hI dL_count_8 (fun H locs hI => ?_)
    refine lv_goto (tgt := 15) hx hb dL_count_9 (by decide) ?_
    refine lv_iconst (v := nI 0) hx hb dL_count_15 (by decide) ?_
    exact kret_xi (x := kset (va_up xa 16 (u 16)) 16 0 ra) (wf := kwO h ad cI cZ cG cJ o) (Nat.le_of_ble_eq_true rfl) (Nat.le_of_ble_eq_true rfl) hx hb hr hlocks hK hI (⟨0, rfl, Or.inr ⟨rfl, j, hj, hje, kset_eq.trans hra⟩, kSt_16 (kSt_up hs2)⟩) dL_count_16
