set_option maxHeartbeats 4000000 in
set_option maxRecDepth 100000 in
theorem C0_add (l : Launch) (hl0 : l.stackTraces = false) (D : va_G) (cI cZ cG : ClassId) (h : Nat) (ad : Nat → Nat) (sz : Nat) (u : kU) (P : Nat → kIns) (n : Nat) (hst : kSt P n u) (vt vg vr vl : Int32) (ld : Bool) (vw : Int32) (wr : Bool) : kXi l D (kty cI cZ cG) y0_add (.code y0_add c0_add 9 (some .int)) ({ frames := 7, cells := 2, slots := 12, locals := 120 }) [.ref h, .int vt, .int vg, .int vr, .int vl, .int (kb ld), .int vw, .int (kb wr)] (kwC h ad cI cZ cG) u sz (fun r x => r = nI n ∧ kFit vt vg vl vw ∧ n < 200 ∧ kSt (mt_upd P n (kmk vt vg vr vl ld vw wr)) (n + 1) x) (fun E => (E = kIAE ∧ ¬ kFit vt vg vl vw) ∨ (E = kISE ∧ kFit vt vg vl vw ∧ n = 200)) := by
  refine vx_ofW (cc := c0_add) (maxL := 9) (ret := (some .int)) (by decide) rfl ?_
  intro p e s m args below meth c s₁ B hml hnt hv
  obtain ⟨rfl, hsz, hP, hK, hD0, hE, hZ⟩ := hv
  have hx := B.exec
  have hb := B.bytes
  have hr := B.returns
  have hts := atoms_spec (ws := Cond.code y0_add c0_add 9 (some .int) :: kBIG) B.pre
  have hB : ∀ w ∈ kBIG, w.before _ s = true := fun w q => hts w (List.mem_cons_of_mem _ q)
  have hown : s.vm.findClass "StageClock" = some m.cls := findClass_of_methodNamed B.named
  have hlocks := B.notSynchronized
  subst hsz
  have hD := hD0.self (sz := s.heap.size)
  generalize hAe : va_A (kwC h ad cI cZ cG u) s.heap.size = A at hD hZ ⊢
  have hA : ∀ q : Nat, s.heap.size ≤ q → A q := fun q h => by rw [← hAe]; exact Or.inr h
  have hI : kI D A s.heap (kwC h ad cI cZ cG u) s.heap [] := ⟨hP, hD, va_S.rf⟩
  have hl := lv_entry ([.ref h, .int vt, .int vg, .int vr, .int vl, .int (kb ld), .int vw, .int (kb wr)]) (n := 9) (Nat.le_of_ble_eq_true rfl)
  rw [lg_entry_eq]
  generalize (lg_sl ([.ref h, .int vt, .int vg, .int vr, .int vl, .int (kb ld), .int vw, .int (kb wr)]) ++ List.replicate (9 - (lg_sl ([.ref h, .int vt, .int vg, .int vr, .int vl, .int (kb ld), .int vw, .int (kb wr)])).length) Slot.unset).toArray = ls at hl ⊢
  have hl : lv_has ls 9 [(0, .ref h), (1, .int vt), (2, .int vg), (3, .int vr), (4, .int vl), (5, .int (kb ld)), (6, .int vw), (7, .int (kb wr))] := hl
  have hin := hst.1
  have hn := hin.2.1
  refine lv_aload_n hx hb d0_add_0 rfl (lv_at hl 0 rfl) ?_
  refine lv_iload_n hx hb d0_add_1 rfl (lv_at hl 1 rfl) ?_
  refine lv_iload_n hx hb d0_add_2 rfl (lv_at hl 2 rfl) ?_
  refine lv_iload hx hb d0_add_3 (lv_at hl 4 rfl) ?_
  refine lv_iload hx hb d0_add_5 (lv_at hl 6 rfl) ?_
  refine kcall_x (n := 4) (u := u) (wf := kwC h ad cI cZ cG) (As := [.int vt, .int vg, .int vl, .int vw]) (b := h) (rest := []) hx hb hml hown hB hK hI hA hE hZ (C0_requireFitting l hl0 D cI cZ cG h ad s.heap.size u vt vg vl vw) (kgV kw_63 kw_65 ks0_requireFitting kw_1 kw_66) (by decide +kernel) ⟨Nat.le_of_ble_eq_true rfl, Nat.le_of_ble_eq_true rfl⟩ (va_recv (q0 := 0) (ci := 0) hK hI.1 rfl rfl) rfl hl.1 (Nat.le_of_ble_eq_true rfl) d0_add_7 ⟨Nat.le_of_ble_eq_true rfl, Nat.le_of_ble_eq_true rfl⟩ rfl hnt hlocks (fun E q => Or.inl q) (Nat.le_of_ble_eq_true rfl) (Nat.le_of_ble_eq_true rfl) (fun xa H locs hq hI => ?_)
  obtain ⟨hxu, hfit⟩ := hq
  rw [hxu] at hI
  refine lv_aload_n hx hb d0_add_10 rfl (lv_at hl 0 rfl) ?_
  refine kC_g9 hx hb hB hown hK hI d0_add_11 ?_
  rw [show u 15 0 = nI n from hin.1]
  refine lv_sipush (v := nI 200) hx hb d0_add_14 (by decide) ?_
  refine lv_icmp_lt (tgt := 30) hx hb d0_add_17 (by decide) (fun hc => ?_) (fun hc => ?_)
  · skip
    have hn2 := (nI_ltI (by omega) (by omega)).mp hc
    refine lv_aload_n hx hb d0_add_30 rfl (lv_at hl 0 rfl) ?_
    refine kC_g9 hx hb hB hown hK hI d0_add_31 ?_
    rw [show u 15 0 = nI n from hin.1]
    refine lv_istore hx hb d0_add_34 hl (by decide) rfl (fun ls hl => ?_)
    have hl : lv_has ls 9 [(8, .int (nI n)), (0, .ref h), (1, .int vt), (2, .int vg), (3, .int vr), (4, .int vl), (5, .int (kb ld)), (6, .int vw), (7, .int (kb wr))] := hl
    refine lv_aload_n hx hb d0_add_36 rfl (lv_at hl 1 rfl) ?_
    refine lv_aload_n hx hb d0_add_37 rfl (lv_at hl 1 rfl) ?_
    refine kC_g9 hx hb hB hown hK hI d0_add_38 ?_
    rw [show u 15 0 = nI n from hin.1]
    refine lv_iconst (v := nI 1) hx hb d0_add_41 (by decide) ?_
    refine k_iadd (v := nI (n + 1)) hx hb (nI_add _ _) d0_add_42 ?_
    refine kC_p9 hx hb hB hown hK hI d0_add_43 (fun H locs hI => ?_)
    obtain ⟨u1, hu1⟩ : ∃ zz : kU, zz = knum u 15 (nI (n + 1)) := ⟨_, rfl⟩
    rw [← hu1] at hI
    refine lv_aload_n hx hb d0_add_46 rfl (lv_at hl 1 rfl) ?_
    refine lv_iload hx hb d0_add_47 (lv_at hl 0 rfl) ?_
    refine lv_iload_n hx hb d0_add_49 rfl (lv_at hl 3 rfl) ?_
    refine lv_iload_n hx hb d0_add_50 rfl (lv_at hl 4 rfl) ?_
    refine lv_iload hx hb d0_add_51 (lv_at hl 5 rfl) ?_
    refine kcall_v (n := 4) (u := u1) (wf := kwC h ad cI cZ cG) (As := [.int (nI n), .int vg, .int vr, .int vl]) (b := h) (rest := []) hx hb hml hown hB hK hI hA hE hZ (C0_setRegisters l D cI cZ cG h ad H.size u1 n hn2 vg vr vl) (kgV kw_152 kw_154 ks0_setRegisters kw_1 kw_155) (by decide +kernel) ⟨Nat.le_of_ble_eq_true rfl, Nat.le_of_ble_eq_true rfl⟩ (va_recv (q0 := 0) (ci := 0) hK hI.1 rfl rfl) rfl hl.1 (Nat.le_of_ble_eq_true rfl) d0_add_53 ⟨Nat.le_of_ble_eq_true rfl, Nat.le_of_ble_eq_true rfl⟩ rfl (fun u2 H locs hq2 hI => ?_)
    refine lv_aload_n hx hb d0_add_56 rfl (lv_at hl 1 rfl) ?_
    refine lv_iload hx hb d0_add_57 (lv_at hl 0 rfl) ?_
    refine lv_iload_n hx hb d0_add_59 rfl (lv_at hl 2 rfl) ?_
    refine lv_iload hx hb d0_add_60 (lv_at hl 6 rfl) ?_
    refine lv_iload hx hb d0_add_62 (lv_at hl 7 rfl) ?_
    refine lv_iload hx hb d0_add_64 (lv_at hl 8 rfl) ?_
    refine kcall_v (n := 5) (u := u2) (wf := kwC h ad cI cZ cG) (As := [.int (nI n), .int vt, .int (kb ld), .int vw, .int (kb wr)]) (b := h) (rest := []) hx hb hml hown hB hK hI hA hE hZ (C0_setPace l D cI cZ cG h ad H.size u2 n hn2 vt ld vw wr) (kgV kw_156 kw_158 ks0_setPace kw_1 kw_159) (by decide +kernel) ⟨Nat.le_of_ble_eq_true rfl, Nat.le_of_ble_eq_true rfl⟩ (va_recv (q0 := 0) (ci := 0) hK hI.1 rfl rfl) rfl hl.1 (Nat.le_of_ble_eq_true rfl) d0_add_66 ⟨Nat.le_of_ble_eq_true rfl, Nat.le_of_ble_eq_true rfl⟩ rfl (fun u3 H locs hq3 hI => ?_)
    refine lv_aload_n hx hb d0_add_69 rfl (lv_at hl 1 rfl) ?_
    refine lv_iload hx hb d0_add_70 (lv_at hl 0 rfl) ?_
    have e3 : u3 = kput u1 n vt vg vr vl ld vw wr := by rw [hq3, hq2]; rfl
    have hin3 : kIn (mt_upd P n (kmk vt vg vr vl ld vw wr)) (n + 1) u3 := by rw [e3]; exact kIn_put (n := n) hfit (by omega) (by rw [hu1]; rfl) (fun i hi hne => by rw [hu1]; exact hin.2.2 i (by omega))
    have ht3 : kTimes (mt_upd P n (kmk vt vg vr vl ld vw wr)) n u3 := by rw [e3]; exact kTimes_put (by rw [hu1]; exact hst.2)
    refine kcall_v (n := 1) (u := u3) (wf := kwC h ad cI cZ cG) (As := [.int (nI n)]) (b := h) (rest := []) hx hb hml hown hB hK hI hA hE hZ (C0_workOutFrom l D cI cZ cG h ad H.size u3 (mt_upd P n (kmk vt vg vr vl ld vw wr)) (n + 1) hin3 n (by omega) ht3) (kgV kw_160 kw_162 ks0_workOutFrom kw_1 kw_163) (by decide +kernel) ⟨Nat.le_of_ble_eq_true rfl, Nat.le_of_ble_eq_true rfl⟩ (va_recv (q0 := 0) (ci := 0) hK hI.1 rfl rfl) rfl hl.1 (Nat.le_of_ble_eq_true rfl) d0_add_72 ⟨Nat.le_of_ble_eq_true rfl, Nat.le_of_ble_eq_true rfl⟩ rfl (fun u4 H locs hq4 hI => ?_)
    refine lv_iload hx hb d0_add_75 (lv_at hl 0 rfl) ?_
    exact kret_xi (x := u4) (wf := kwC h ad cI cZ cG) (Nat.le_of_ble_eq_true rfl) (Nat.le_of_ble_eq_true rfl) hx hb hr hlocks hK hI (⟨rfl, hfit, hn2, hq4.1, hq4.2⟩) d0_add_77
  · skip
    have hn2 : ¬ n < 200 := fun q => hc ((nI_ltI (by omega) (by omega)).mpr q)
    exact kthr (cls := kISE) (is := 50) (ik := 48) (u := u) (wf := kwC h ad cI cZ cG) (List.mem_of_getElem? (i := 2) rfl) hx hb hl0 hB hown hK hI hE hZ (by decide +kernel) kw_136 kw_7 kat_S kan_S kag_S (hl.1.trans hml.symm) hnt hlocks d0_add_20 d0_add_23 d0_add_24 d0_add_26 d0_add_29 (Nat.le_of_ble_eq_true rfl) (Nat.le_of_ble_eq_true rfl) (Nat.le_of_ble_eq_true rfl) (Nat.le_of_ble_eq_true rfl) (Nat.le_of_ble_eq_true rfl) (Nat.le_of_ble_eq_true rfl) (Or.inr ⟨rfl, hfit, by omega⟩)
set_option maxHeartbeats 4000000 in
set_option maxRecDepth 100000 in
theorem C0_change (l : Launch) (hl0 : l.stackTraces = false) (D : va_G) (cI cZ cG : ClassId) (h : Nat) (ad : Nat → Nat) (sz : Nat) (u : kU) (P : Nat → kIns) (n : Nat) (hst : kSt P n u) (vk : Int32) (vt vg vr vl : Int32) (ld : Bool) (vw : Int32) (wr : Bool) : kXv l D (kty cI cZ cG) y0_change (.code y0_change c0_change 9 none) ({ frames := 7, cells := 2, slots := 12, locals := 120 }) [.ref h, .int vk, .int vt, .int vg, .int vr, .int vl, .int (kb ld), .int vw, .int (kb wr)] (kwC h ad cI cZ cG) u sz (fun x => ∃ k, k < n ∧ vk = nI k ∧ kFit vt vg vl vw ∧ kSt (mt_upd P k (kmk vt vg vr vl ld vw wr)) n x) (fun E => (E = kIAE ∧ ¬ kFit vt vg vl vw) ∨ (E = kIOB ∧ kFit vt vg vl vw ∧ ¬ kIx vk n)) := by
  refine vx_ofW (cc := c0_change) (maxL := 9) (ret := none) (by decide) rfl ?_
  intro p e s m args below meth c s₁ B hml hnt hv
  obtain ⟨rfl, hsz, hP, hK, hD0, hE, hZ⟩ := hv
  have hx := B.exec
  have hb := B.bytes
  have hr := B.returns
  have hts := atoms_spec (ws := Cond.code y0_change c0_change 9 none :: kBIG) B.pre
  have hB : ∀ w ∈ kBIG, w.before _ s = true := fun w q => hts w (List.mem_cons_of_mem _ q)
  have hown : s.vm.findClass "StageClock" = some m.cls := findClass_of_methodNamed B.named
  have hlocks := B.notSynchronized
  subst hsz
  have hD := hD0.self (sz := s.heap.size)
  generalize hAe : va_A (kwC h ad cI cZ cG u) s.heap.size = A at hD hZ ⊢
  have hA : ∀ q : Nat, s.heap.size ≤ q → A q := fun q h => by rw [← hAe]; exact Or.inr h
  have hI : kI D A s.heap (kwC h ad cI cZ cG u) s.heap [] := ⟨hP, hD, va_S.rf⟩
  have hl := lv_entry ([.ref h, .int vk, .int vt, .int vg, .int vr, .int vl, .int (kb ld), .int vw, .int (kb wr)]) (n := 9) (Nat.le_of_ble_eq_true rfl)
  rw [lg_entry_eq]
  generalize (lg_sl ([.ref h, .int vk, .int vt, .int vg, .int vr, .int vl, .int (kb ld), .int vw, .int (kb wr)]) ++ List.replicate (9 - (lg_sl ([.ref h, .int vk, .int vt, .int vg, .int vr, .int vl, .int (kb ld), .int vw, .int (kb wr)])).length) Slot.unset).toArray = ls at hl ⊢
  have hl : lv_has ls 9 [(0, .ref h), (1, .int vk), (2, .int vt), (3, .int vg), (4, .int vr), (5, .int vl), (6, .int (kb ld)), (7, .int vw), (8, .int (kb wr))] := hl
  have hin := hst.1
  have hn := hin.2.1
  refine lv_aload_n hx hb d0_change_0 rfl (lv_at hl 0 rfl) ?_
  refine lv_iload_n hx hb d0_change_1 rfl (lv_at hl 2 rfl) ?_
  refine lv_iload_n hx hb d0_change_2 rfl (lv_at hl 3 rfl) ?_
  refine lv_iload hx hb d0_change_3 (lv_at hl 5 rfl) ?_
  refine lv_iload hx hb d0_change_5 (lv_at hl 7 rfl) ?_
  refine kcall_x (n := 4) (u := u) (wf := kwC h ad cI cZ cG) (As := [.int vt, .int vg, .int vl, .int vw]) (b := h) (rest := []) hx hb hml hown hB hK hI hA hE hZ (C0_requireFitting l hl0 D cI cZ cG h ad s.heap.size u vt vg vl vw) (kgV kw_63 kw_65 ks0_requireFitting kw_1 kw_66) (by decide +kernel) ⟨Nat.le_of_ble_eq_true rfl, Nat.le_of_ble_eq_true rfl⟩ (va_recv (q0 := 0) (ci := 0) hK hI.1 rfl rfl) rfl hl.1 (Nat.le_of_ble_eq_true rfl) d0_change_7 ⟨Nat.le_of_ble_eq_true rfl, Nat.le_of_ble_eq_true rfl⟩ rfl hnt hlocks (fun E q => Or.inl q) (Nat.le_of_ble_eq_true rfl) (Nat.le_of_ble_eq_true rfl) (fun xa H locs hq hI => ?_)
  obtain ⟨hxu, hfit⟩ := hq
  rw [hxu] at hI
  refine lv_aload_n hx hb d0_change_10 rfl (lv_at hl 0 rfl) ?_
  refine lv_iload_n hx hb d0_change_11 rfl (lv_at hl 1 rfl) ?_
  refine kcall_x (n := 1) (u := u) (wf := kwC h ad cI cZ cG) (As := [.int vk]) (b := h) (rest := []) hx hb hml hown hB hK hI hA hE hZ (C0_requireInstruction l hl0 D cI cZ cG h ad H.size u vk) (kgV kw_202 kw_204 ks0_requireInstruction kw_1 kw_205) (by decide +kernel) ⟨Nat.le_of_ble_eq_true rfl, Nat.le_of_ble_eq_true rfl⟩ (va_recv (q0 := 0) (ci := 0) hK hI.1 rfl rfl) rfl hl.1 (Nat.le_of_ble_eq_true rfl) d0_change_12 ⟨Nat.le_of_ble_eq_true rfl, Nat.le_of_ble_eq_true rfl⟩ rfl hnt hlocks (fun E q => Or.inr ⟨q.1, hfit, q.2.elim (kIx_neg (by omega)) (fun z => kIx_ge (by omega) (by rw [← hin.1]; exact z))⟩) (Nat.le_of_ble_eq_true rfl) (Nat.le_of_ble_eq_true rfl) (fun xa H locs hq hI => ?_)
  obtain ⟨hxu, hk0, hk1⟩ := hq
  rw [hxu] at hI
  rw [hin.1] at hk1
  obtain ⟨k, hkn, rfl⟩ := kIx_of (by omega) hk0 hk1
  refine lv_aload_n hx hb d0_change_15 rfl (lv_at hl 0 rfl) ?_
  refine lv_iload_n hx hb d0_change_16 rfl (lv_at hl 1 rfl) ?_
  refine lv_iload_n hx hb d0_change_17 rfl (lv_at hl 3 rfl) ?_
  refine lv_iload hx hb d0_change_18 (lv_at hl 4 rfl) ?_
  refine lv_iload hx hb d0_change_20 (lv_at hl 5 rfl) ?_
  refine kcall_v (n := 4) (u := u) (wf := kwC h ad cI cZ cG) (As := [.int (nI k), .int vg, .int vr, .int vl]) (b := h) (rest := []) hx hb hml hown hB hK hI hA hE hZ (C0_setRegisters l D cI cZ cG h ad H.size u k (by omega) vg vr vl) (kgV kw_152 kw_154 ks0_setRegisters kw_1 kw_155) (by decide +kernel) ⟨Nat.le_of_ble_eq_true rfl, Nat.le_of_ble_eq_true rfl⟩ (va_recv (q0 := 0) (ci := 0) hK hI.1 rfl rfl) rfl hl.1 (Nat.le_of_ble_eq_true rfl) d0_change_22 ⟨Nat.le_of_ble_eq_true rfl, Nat.le_of_ble_eq_true rfl⟩ rfl (fun u2 H locs hq2 hI => ?_)
  refine lv_aload_n hx hb d0_change_25 rfl (lv_at hl 0 rfl) ?_
  refine lv_iload_n hx hb d0_change_26 rfl (lv_at hl 1 rfl) ?_
  refine lv_iload_n hx hb d0_change_27 rfl (lv_at hl 2 rfl) ?_
  refine lv_iload hx hb d0_change_28 (lv_at hl 6 rfl) ?_
  refine lv_iload hx hb d0_change_30 (lv_at hl 7 rfl) ?_
  refine lv_iload hx hb d0_change_32 (lv_at hl 8 rfl) ?_
  refine kcall_v (n := 5) (u := u2) (wf := kwC h ad cI cZ cG) (As := [.int (nI k), .int vt, .int (kb ld), .int vw, .int (kb wr)]) (b := h) (rest := []) hx hb hml hown hB hK hI hA hE hZ (C0_setPace l D cI cZ cG h ad H.size u2 k (by omega) vt ld vw wr) (kgV kw_156 kw_158 ks0_setPace kw_1 kw_159) (by decide +kernel) ⟨Nat.le_of_ble_eq_true rfl, Nat.le_of_ble_eq_true rfl⟩ (va_recv (q0 := 0) (ci := 0) hK hI.1 rfl rfl) rfl hl.1 (Nat.le_of_ble_eq_true rfl) d0_change_34 ⟨Nat.le_of_ble_eq_true rfl, Nat.le_of_ble_eq_true rfl⟩ rfl (fun u3 H locs hq3 hI => ?_)
  refine lv_aload_n hx hb d0_change_37 rfl (lv_at hl 0 rfl) ?_
  refine lv_iload_n hx hb d0_change_38 rfl (lv_at hl 1 rfl) ?_
  have e3 : u3 = kput u k vt vg vr vl ld vw wr := by rw [hq3, hq2]; rfl
  have hin3 : kIn (mt_upd P k (kmk vt vg vr vl ld vw wr)) (n) u3 := by rw [e3]; exact kIn_put (n := n) hfit (by omega) hin.1 (fun i hi _ => hin.2.2 i hi)
  have ht3 : kTimes (mt_upd P k (kmk vt vg vr vl ld vw wr)) k u3 := by rw [e3]; exact kTimes_put (fun a ha => hst.2 a (by omega))
  refine kcall_v (n := 1) (u := u3) (wf := kwC h ad cI cZ cG) (As := [.int (nI k)]) (b := h) (rest := []) hx hb hml hown hB hK hI hA hE hZ (C0_workOutFrom l D cI cZ cG h ad H.size u3 (mt_upd P k (kmk vt vg vr vl ld vw wr)) n hin3 k (by omega) ht3) (kgV kw_160 kw_162 ks0_workOutFrom kw_1 kw_163) (by decide +kernel) ⟨Nat.le_of_ble_eq_true rfl, Nat.le_of_ble_eq_true rfl⟩ (va_recv (q0 := 0) (ci := 0) hK hI.1 rfl rfl) rfl hl.1 (Nat.le_of_ble_eq_true rfl) d0_change_39 ⟨Nat.le_of_ble_eq_true rfl, Nat.le_of_ble_eq_true rfl⟩ rfl (fun u4 H locs hq4 hI => ?_)
  exact kret_xv (x := u4) (wf := kwC h ad cI cZ cG) (Nat.le_of_ble_eq_true rfl) (Nat.le_of_ble_eq_true rfl) hx hb hr hlocks hK hI (⟨k, hkn, rfl, hfit, hq4.1, hq4.2⟩) d0_change_42
set_option maxHeartbeats 4000000 in
set_option maxRecDepth 100000 in
theorem C0_cut (l : Launch) (hl0 : l.stackTraces = false) (D : va_G) (cI cZ cG : ClassId) (h : Nat) (ad : Nat → Nat) (sz : Nat) (u : kU) (P : Nat → kIns) (n : Nat) (hst : kSt P n u) (vn : Int32) : kXi l D (kty cI cZ cG) y0_cut (.code y0_cut c0_cut 3 (some .int)) ({ frames := 7, cells := 2, slots := 12, locals := 120 }) [.ref h, .int vn] (kwC h ad cI cZ cG) u sz (fun r x => r = nI n ∧ ∃ k, k < n + 1 ∧ vn = nI k ∧ kSt P k x) (fun E => E = kIAE ∧ ¬ kIx vn (n + 1)) := by
  refine vx_ofW (cc := c0_cut) (maxL := 3) (ret := (some .int)) (by decide) rfl ?_
  intro p e s m args below meth c s₁ B hml hnt hv
  obtain ⟨rfl, hsz, hP, hK, hD0, hE, hZ⟩ := hv
  have hx := B.exec
  have hb := B.bytes
  have hr := B.returns
  have hts := atoms_spec (ws := Cond.code y0_cut c0_cut 3 (some .int) :: kBIG) B.pre
  have hB : ∀ w ∈ kBIG, w.before _ s = true := fun w q => hts w (List.mem_cons_of_mem _ q)
  have hown : s.vm.findClass "StageClock" = some m.cls := findClass_of_methodNamed B.named
  have hlocks := B.notSynchronized
  subst hsz
  have hD := hD0.self (sz := s.heap.size)
  generalize hAe : va_A (kwC h ad cI cZ cG u) s.heap.size = A at hD hZ ⊢
  have hA : ∀ q : Nat, s.heap.size ≤ q → A q := fun q h => by rw [← hAe]; exact Or.inr h
  have hI : kI D A s.heap (kwC h ad cI cZ cG u) s.heap [] := ⟨hP, hD, va_S.rf⟩
  have hl := lv_entry ([.ref h, .int vn]) (n := 3) (Nat.le_of_ble_eq_true rfl)
  rw [lg_entry_eq]
  generalize (lg_sl ([.ref h, .int vn]) ++ List.replicate (3 - (lg_sl ([.ref h, .int vn])).length) Slot.unset).toArray = ls at hl ⊢
  have hl : lv_has ls 3 [(0, .ref h), (1, .int vn)] := hl
  have hin := hst.1
  have hn := hin.2.1
  refine lv_iload_n hx hb d0_cut_0 rfl (lv_at hl 1 rfl) ?_
  refine lv_if_lt (tgt := 12) hx hb d0_cut_1 (by decide) (fun hc => ?_) (fun hc => ?_)
  · skip
    exact kthr (cls := kIAE) (is := 71) (ik := 69) (u := u) (wf := kwC h ad cI cZ cG) (List.mem_of_getElem? (i := 3) rfl) hx hb hl0 hB hown hK hI hE hZ (by decide +kernel) kw_67 kw_6 kat_I kan_I kag_I (hl.1.trans hml.symm) hnt hlocks d0_cut_12 d0_cut_15 d0_cut_16 d0_cut_18 d0_cut_21 (Nat.le_of_ble_eq_true rfl) (Nat.le_of_ble_eq_true rfl) (Nat.le_of_ble_eq_true rfl) (Nat.le_of_ble_eq_true rfl) (Nat.le_of_ble_eq_true rfl) (Nat.le_of_ble_eq_true rfl) (⟨rfl, kIx_neg (by omega) hc⟩)
  · skip
    have f1 := hc
    refine lv_iload_n hx hb d0_cut_4 rfl (lv_at hl 1 rfl) ?_
    refine lv_aload_n hx hb d0_cut_5 rfl (lv_at hl 0 rfl) ?_
    refine kC_g9 hx hb hB hown hK hI d0_cut_6 ?_
    rw [show u 15 0 = nI n from hin.1]
    refine lv_icmp_le (tgt := 22) hx hb d0_cut_9 (by decide) (fun hc => ?_) (fun hc => ?_)
    · skip
      obtain ⟨k, hkn, rfl⟩ := kIx_le (by omega) f1 hc
      refine lv_aload_n hx hb d0_cut_22 rfl (lv_at hl 0 rfl) ?_
      refine kC_g9 hx hb hB hown hK hI d0_cut_23 ?_
      rw [show u 15 0 = nI n from hin.1]
      refine lv_istore_n hx hb d0_cut_26 rfl hl (by decide) rfl (fun ls hl => ?_)
      have hl : lv_has ls 3 [(2, .int (nI n)), (0, .ref h), (1, .int (nI k))] := hl
      refine lv_aload_n hx hb d0_cut_27 rfl (lv_at hl 1 rfl) ?_
      refine lv_iload_n hx hb d0_cut_28 rfl (lv_at hl 2 rfl) ?_
      refine kC_p9 hx hb hB hown hK hI d0_cut_29 (fun H locs hI => ?_)
      obtain ⟨u1, hu1⟩ : ∃ zz : kU, zz = knum u 15 (nI k) := ⟨_, rfl⟩
      rw [← hu1] at hI
      refine lv_iload_n hx hb d0_cut_32 rfl (lv_at hl 0 rfl) ?_
      exact kret_xi (x := u1) (wf := kwC h ad cI cZ cG) (Nat.le_of_ble_eq_true rfl) (Nat.le_of_ble_eq_true rfl) hx hb hr hlocks hK hI (⟨rfl, k, hkn, rfl, by rw [hu1]; exact kSt_cut hst (by omega)⟩) d0_cut_33
    · skip
      exact kthr (cls := kIAE) (is := 71) (ik := 69) (u := u) (wf := kwC h ad cI cZ cG) (List.mem_of_getElem? (i := 3) rfl) hx hb hl0 hB hown hK hI hE hZ (by decide +kernel) kw_67 kw_6 kat_I kan_I kag_I (hl.1.trans hml.symm) hnt hlocks d0_cut_12 d0_cut_15 d0_cut_16 d0_cut_18 d0_cut_21 (Nat.le_of_ble_eq_true rfl) (Nat.le_of_ble_eq_true rfl) (Nat.le_of_ble_eq_true rfl) (Nat.le_of_ble_eq_true rfl) (Nat.le_of_ble_eq_true rfl) (Nat.le_of_ble_eq_true rfl) (⟨rfl, kIx_gt (by omega) hc⟩)
set_option maxHeartbeats 4000000 in
set_option maxRecDepth 100000 in
theorem C0_when (l : Launch) (hl0 : l.stackTraces = false) (D : va_G) (cI cZ cG : ClassId) (h : Nat) (ad : Nat → Nat) (sz : Nat) (u : kU) (P : Nat → kIns) (n : Nat) (hst : kSt P n u) (vk vw : Int32) : kXi l D (kty cI cZ cG) y0_when (.code y0_when c0_when 3 (some .int)) ({ frames := 7, cells := 2, slots := 12, locals := 120 }) [.ref h, .int vk, .int vw] (kwC h ad cI cZ cG) u sz (fun r x => (∃ k j, k < n ∧ vk = nI k ∧ j < 7 ∧ vw = nI j ∧ r = nI (mt_when P k j)) ∧ x = u) (fun E => (E = kIAE ∧ ¬ kIx vw 7) ∨ (E = kIOB ∧ kIx vw 7 ∧ ¬ kIx vk n)) := by
  refine vx_ofW (cc := c0_when) (maxL := 3) (ret := (some .int)) (by decide) rfl ?_
  intro p e s m args below meth c s₁ B hml hnt hv
  obtain ⟨rfl, hsz, hP, hK, hD0, hE, hZ⟩ := hv
  have hx := B.exec
  have hb := B.bytes
  have hr := B.returns
  have hts := atoms_spec (ws := Cond.code y0_when c0_when 3 (some .int) :: kBIG) B.pre
  have hB : ∀ w ∈ kBIG, w.before _ s = true := fun w q => hts w (List.mem_cons_of_mem _ q)
  have hown : s.vm.findClass "StageClock" = some m.cls := findClass_of_methodNamed B.named
  have hlocks := B.notSynchronized
  subst hsz
  have hD := hD0.self (sz := s.heap.size)
  generalize hAe : va_A (kwC h ad cI cZ cG u) s.heap.size = A at hD hZ ⊢
  have hA : ∀ q : Nat, s.heap.size ≤ q → A q := fun q h => by rw [← hAe]; exact Or.inr h
  have hI : kI D A s.heap (kwC h ad cI cZ cG u) s.heap [] := ⟨hP, hD, va_S.rf⟩
  have hl := lv_entry ([.ref h, .int vk, .int vw]) (n := 3) (Nat.le_of_ble_eq_true rfl)
  rw [lg_entry_eq]
  generalize (lg_sl ([.ref h, .int vk, .int vw]) ++ List.replicate (3 - (lg_sl ([.ref h, .int vk, .int vw])).length) Slot.unset).toArray = ls at hl ⊢
  have hl : lv_has ls 3 [(0, .ref h), (1, .int vk), (2, .int vw)] := hl
  have hin := hst.1
  have hn := hin.2.1
  refine lv_iload_n hx hb d0_when_0 rfl (lv_at hl 2 rfl) ?_
  refine lv_if_lt (tgt := 10) hx hb d0_when_1 (by decide) (fun hc => ?_) (fun hc => ?_)
  · skip
    exact kthr (cls := kIAE) (is := 74) (ik := 69) (u := u) (wf := kwC h ad cI cZ cG) (List.mem_of_getElem? (i := 4) rfl) hx hb hl0 hB hown hK hI hE hZ (by decide +kernel) kw_67 kw_6 kat_I kan_I kag_I (hl.1.trans hml.symm) hnt hlocks d0_when_10 d0_when_13 d0_when_14 d0_when_16 d0_when_19 (Nat.le_of_ble_eq_true rfl) (Nat.le_of_ble_eq_true rfl) (Nat.le_of_ble_eq_true rfl) (Nat.le_of_ble_eq_true rfl) (Nat.le_of_ble_eq_true rfl) (Nat.le_of_ble_eq_true rfl) (Or.inl ⟨rfl, kIx_neg (by decide) hc⟩)
  · skip
    have f1 := hc
    refine lv_iload_n hx hb d0_when_4 rfl (lv_at hl 2 rfl) ?_
    refine lv_bipush (v := nI 6) hx hb d0_when_5 (by decide) ?_
    refine lv_icmp_le (tgt := 20) hx hb d0_when_7 (by decide) (fun hc => ?_) (fun hc => ?_)
    · skip
      have hw := kIx_le (n := 6) (by decide) f1 hc
      refine lv_aload_n hx hb d0_when_20 rfl (lv_at hl 0 rfl) ?_
      refine lv_iload_n hx hb d0_when_21 rfl (lv_at hl 1 rfl) ?_
      refine kcall_x (n := 1) (u := u) (wf := kwC h ad cI cZ cG) (As := [.int vk]) (b := h) (rest := []) hx hb hml hown hB hK hI hA hE hZ (C0_requireInstruction l hl0 D cI cZ cG h ad s.heap.size u vk) (kgV kw_202 kw_204 ks0_requireInstruction kw_1 kw_205) (by decide +kernel) ⟨Nat.le_of_ble_eq_true rfl, Nat.le_of_ble_eq_true rfl⟩ (va_recv (q0 := 0) (ci := 0) hK hI.1 rfl rfl) rfl hl.1 (Nat.le_of_ble_eq_true rfl) d0_when_22 ⟨Nat.le_of_ble_eq_true rfl, Nat.le_of_ble_eq_true rfl⟩ rfl hnt hlocks (fun E q => Or.inr ⟨q.1, hw, q.2.elim (kIx_neg (by omega)) (fun z => kIx_ge (by omega) (by rw [← hin.1]; exact z))⟩) (Nat.le_of_ble_eq_true rfl) (Nat.le_of_ble_eq_true rfl) (fun xa H locs hq hI => ?_)
      obtain ⟨hxu, hk0, hk1⟩ := hq
      rw [hxu] at hI
      rw [hin.1] at hk1
      obtain ⟨k, hkn, rfl⟩ := kIx_of (by omega) hk0 hk1
      obtain ⟨j, hj, rfl⟩ := hw
      refine lv_aload_n hx hb d0_when_25 rfl (lv_at hl 0 rfl) ?_
      refine kC_g7 hx hb hB hown hK hI d0_when_26 ?_
      refine lv_iload_n hx hb d0_when_29 rfl (lv_at hl 2 rfl) ?_
      refine kC_row hx hb hK hI j (hj) (rfl) d0_when_30 ?_
      refine lv_iload_n hx hb d0_when_31 rfl (lv_at hl 1 rfl) ?_
      refine kC_lr (v := nI (mt_when P k j)) hx hb hK hI j (hj) k (by omega) (rfl) (kRow_when (hst.2 k hkn) hj) d0_when_32 ?_
      exact kret_xi (x := u) (wf := kwC h ad cI cZ cG) (Nat.le_of_ble_eq_true rfl) (Nat.le_of_ble_eq_true rfl) hx hb hr hlocks hK hI (⟨⟨k, j, hkn, rfl, hj, rfl, rfl⟩, rfl⟩) d0_when_33
    · skip
      exact kthr (cls := kIAE) (is := 74) (ik := 69) (u := u) (wf := kwC h ad cI cZ cG) (List.mem_of_getElem? (i := 4) rfl) hx hb hl0 hB hown hK hI hE hZ (by decide +kernel) kw_67 kw_6 kat_I kan_I kag_I (hl.1.trans hml.symm) hnt hlocks d0_when_10 d0_when_13 d0_when_14 d0_when_16 d0_when_19 (Nat.le_of_ble_eq_true rfl) (Nat.le_of_ble_eq_true rfl) (Nat.le_of_ble_eq_true rfl) (Nat.le_of_ble_eq_true rfl) (Nat.le_of_ble_eq_true rfl) (Nat.le_of_ble_eq_true rfl) (Or.inl ⟨rfl, kIx_gt (n := 6) (by decide) hc⟩)
set_option maxHeartbeats 4000000 in
set_option maxRecDepth 100000 in
theorem C0_held (l : Launch) (hl0 : l.stackTraces = false) (D : va_G) (cI cZ cG : ClassId) (h : Nat) (ad : Nat → Nat) (sz : Nat) (u : kU) (P : Nat → kIns) (n : Nat) (hst : kSt P n u) (vk : Int32) : kXi l D (kty cI cZ cG) y0_held (.code y0_held c0_held 2 (some .int)) ({ frames := 7, cells := 2, slots := 12, locals := 120 }) [.ref h, .int vk] (kwC h ad cI cZ cG) u sz (fun r x => (∃ k, k < n ∧ vk = nI k ∧ r = nI ((mt_tm P k).2.2.1 - ((mt_tm P k).2.1 + 1))) ∧ x = u) (fun E => E = kIOB ∧ ¬ kIx vk n) := by
  refine vx_ofW (cc := c0_held) (maxL := 2) (ret := (some .int)) (by decide) rfl ?_
  intro p e s m args below meth c s₁ B hml hnt hv
  obtain ⟨rfl, hsz, hP, hK, hD0, hE, hZ⟩ := hv
  have hx := B.exec
  have hb := B.bytes
  have hr := B.returns
  have hts := atoms_spec (ws := Cond.code y0_held c0_held 2 (some .int) :: kBIG) B.pre
  have hB : ∀ w ∈ kBIG, w.before _ s = true := fun w q => hts w (List.mem_cons_of_mem _ q)
  have hown : s.vm.findClass "StageClock" = some m.cls := findClass_of_methodNamed B.named
  have hlocks := B.notSynchronized
  subst hsz
  have hD := hD0.self (sz := s.heap.size)
  generalize hAe : va_A (kwC h ad cI cZ cG u) s.heap.size = A at hD hZ ⊢
  have hA : ∀ q : Nat, s.heap.size ≤ q → A q := fun q h => by rw [← hAe]; exact Or.inr h
  have hI : kI D A s.heap (kwC h ad cI cZ cG u) s.heap [] := ⟨hP, hD, va_S.rf⟩
  have hl := lv_entry ([.ref h, .int vk]) (n := 2) (Nat.le_of_ble_eq_true rfl)
  rw [lg_entry_eq]
  generalize (lg_sl ([.ref h, .int vk]) ++ List.replicate (2 - (lg_sl ([.ref h, .int vk])).length) Slot.unset).toArray = ls at hl ⊢
  have hl : lv_has ls 2 [(0, .ref h), (1, .int vk)] := hl
  have hin := hst.1
  have hn := hin.2.1
  refine lv_aload_n hx hb d0_held_0 rfl (lv_at hl 0 rfl) ?_
  refine lv_iload_n hx hb d0_held_1 rfl (lv_at hl 1 rfl) ?_
  refine kcall_x (n := 1) (u := u) (wf := kwC h ad cI cZ cG) (As := [.int vk]) (b := h) (rest := []) hx hb hml hown hB hK hI hA hE hZ (C0_requireInstruction l hl0 D cI cZ cG h ad s.heap.size u vk) (kgV kw_202 kw_204 ks0_requireInstruction kw_1 kw_205) (by decide +kernel) ⟨Nat.le_of_ble_eq_true rfl, Nat.le_of_ble_eq_true rfl⟩ (va_recv (q0 := 0) (ci := 0) hK hI.1 rfl rfl) rfl hl.1 (Nat.le_of_ble_eq_true rfl) d0_held_2 ⟨Nat.le_of_ble_eq_true rfl, Nat.le_of_ble_eq_true rfl⟩ rfl hnt hlocks (fun E q => ⟨q.1, q.2.elim (kIx_neg (by omega)) (fun z => kIx_ge (by omega) (by rw [← hin.1]; exact z))⟩) (Nat.le_of_ble_eq_true rfl) (Nat.le_of_ble_eq_true rfl) (fun xa H locs hq hI => ?_)
  obtain ⟨hxu, hk0, hk1⟩ := hq
  rw [hxu] at hI
  rw [hin.1] at hk1
  obtain ⟨k, hkn, rfl⟩ := kIx_of (by omega) hk0 hk1
  refine lv_aload_n hx hb d0_held_5 rfl (lv_at hl 0 rfl) ?_
  refine kC_g7 hx hb hB hown hK hI d0_held_6 ?_
  refine lv_iconst (v := nI 2) hx hb d0_held_9 (by decide) ?_
  refine kC_row hx hb hK hI 2 (by decide) (rfl) d0_held_10 ?_
  refine lv_iload_n hx hb d0_held_11 rfl (lv_at hl 1 rfl) ?_
  refine kC_l10 (v := nI (mt_tm P k).2.2.1) hx hb hK hI k (by omega) (rfl) ((hst.2 k hkn).2.2.1) d0_held_12 ?_
  refine lv_aload_n hx hb d0_held_13 rfl (lv_at hl 0 rfl) ?_
  refine kC_g7 hx hb hB hown hK hI d0_held_14 ?_
  refine lv_iconst (v := nI 1) hx hb d0_held_17 (by decide) ?_
  refine kC_row hx hb hK hI 1 (by decide) (rfl) d0_held_18 ?_
  refine lv_iload_n hx hb d0_held_19 rfl (lv_at hl 1 rfl) ?_
  refine kC_l9 (v := nI (mt_tm P k).2.1) hx hb hK hI k (by omega) (rfl) ((hst.2 k hkn).2.1) d0_held_20 ?_
  refine lv_iconst (v := nI 1) hx hb d0_held_21 (by decide) ?_
  refine k_iadd (v := nI ((mt_tm P k).2.1 + 1)) hx hb (nI_add _ _) d0_held_22 ?_
  refine k_isub (v := nI ((mt_tm P k).2.2.1 - ((mt_tm P k).2.1 + 1))) hx hb (pk_sub (mt_X_ge P k)) d0_held_23 ?_
  exact kret_xi (x := u) (wf := kwC h ad cI cZ cG) (Nat.le_of_ble_eq_true rfl) (Nat.le_of_ble_eq_true rfl) hx hb hr hlocks hK hI (⟨⟨k, hkn, rfl, rfl⟩, rfl⟩) d0_held_24
set_option maxHeartbeats 4000000 in
set_option maxRecDepth 100000 in
theorem L0_giver {p : Program} {e : Env} {s : State} {m : MethodId} {args : Array Value} {below : List Frame} {meth : Method} {c : Code} {Q : State → Prop} {A : Nat → Prop} (l : Launch) (D : va_G) (cI cZ cG : ClassId) (h : Nat) (ad : Nat → Nat) (u : kU) (P : Nat → kIns) (n : Nat) (hin : kIn P n u) (k r : Nat) (hk : k < n) (hr : r ≤ 15) (hx : p.tables.exec = Jvm.exec) (hb : c.code = c0_giver) (hml : c.maxLocals = 4) (hown : s.vm.findClass "StageClock" = some m.cls) (hB : ∀ w ∈ kBIG, w.before args s = true) (hK : va_K D kcl (kty cI cZ cG) s) (hA : ∀ q : Nat, s.heap.size ≤ q → A q) (hE : kE s) (hZ : kZ A s s.heap)
    (kk1 : ∀ (ls : Array Slot) (H : Heap) (locs : List Loc) (j : Nat) (hj : mt_last P r k = some j), lv_has ls 4 [(3, .int (nI j)), (0, .ref h), (1, .int (nI k)), (2, .int (nI r))] → kI D A s.heap (kwC h ad cI cZ cG u) H locs → W p l e ({ frames := 7, cells := 2, slots := 12, locals := 120 } : Room) s m args below meth c H locs 1 6 Q (F0 m 44 ls []))
    (kk2 : ∀ (ls : Array Slot) (H : Heap) (locs : List Loc) (a : Int32) (hj : mt_last P r k = none), lv_has ls 4 [(3, .int a), (0, .ref h), (1, .int (nI k)), (2, .int (nI r))] → kI D A s.heap (kwC h ad cI cZ cG u) H locs → W p l e ({ frames := 7, cells := 2, slots := 12, locals := 120 } : Room) s m args below meth c H locs 1 6 Q (F0 m 52 ls []))
    : ∀ (d : Nat) (ls : Array Slot) (H : Heap) (locs : List Loc) (hd : d ≤ k) (hm : mt_last P r k = mt_last P r d), lv_has ls 4 [(3, .int (nI d - nI 1)), (0, .ref h), (1, .int (nI k)), (2, .int (nI r))] → kI D A s.heap (kwC h ad cI cZ cG u) H locs → W p l e ({ frames := 7, cells := 2, slots := 12, locals := 120 } : Room) s m args below meth c H locs 1 6 Q (F0 m 30 ls []) := by
  have hn := hin.2.1
  intro d
  induction d with
  | zero =>
    intro ls H locs hd hm hl hI
    refine lv_iload_n hx hb d0_giver_30 rfl (lv_at hl 0 rfl) ?_
    refine lv_if_lt (tgt := 52) hx hb d0_giver_31 (by decide) (fun hc => ?_) (fun hc => ?_)
    · skip
      exact kk2 ls H locs _ hm hl hI
    · exact absurd (by decide) hc
  | succ d ih =>
    intro ls H locs hd hm hl hI
    have e3 : nI (d + 1) - nI 1 = nI d := pk_sub (by omega)
    rw [e3] at hl
    have hg := (hin.2.2 d (by omega)).1.2.2.1
    refine lv_iload_n hx hb d0_giver_30 rfl (lv_at hl 0 rfl) ?_
    refine lv_if_lt (tgt := 52) hx hb d0_giver_31 (by decide) (fun hc => ?_) (fun hc => ?_)
    · exact absurd hc (nI_pos (by omega))
    · skip
      refine lv_aload_n hx hb d0_giver_34 rfl (lv_at hl 1 rfl) ?_
      refine kC_g1 hx hb hB hown hK hI d0_giver_35 ?_
      refine lv_iload_n hx hb d0_giver_38 rfl (lv_at hl 0 rfl) ?_
      refine kC_l1 (v := nI (mt_g (P d))) hx hb hK hI d (by omega) (rfl) ((hin.2.2 d (by omega)).2.2.1) d0_giver_39 ?_
      refine lv_iload_n hx hb d0_giver_40 rfl (lv_at hl 3 rfl) ?_
      refine lv_icmp_ne (tgt := 46) hx hb d0_giver_41 (by decide) (fun hc => ?_) (fun hc => ?_)
      · skip
        have hne : mt_g (P d) ≠ r := fun q => hc (by rw [q])
        refine lv_iinc (k := 0) (v := nI d - nI 1) hx hb d0_giver_46 hl rfl (kdec d) (by decide) rfl (fun ls hl => ?_)
        have hl : lv_has ls 4 [(3, .int (nI d - nI 1)), (0, .ref h), (1, .int (nI k)), (2, .int (nI r))] := hl
        refine lv_goto (tgt := 30) hx hb d0_giver_49 (by decide) ?_
        exact ih ls H locs (by omega) (hm.trans (if_neg hne)) (lv_sub hl [0, 1, 2, 3] rfl) hI
      · skip
        have he : mt_g (P d) = r := (nI_eq (by omega) (by omega)).mp hc
        exact kk1 ls H locs d (hm.trans (if_pos he)) hl hI
set_option maxHeartbeats 4000000 in
set_option maxRecDepth 100000 in
theorem C0_giver (l : Launch) (hl0 : l.stackTraces = false) (D : va_G) (cI cZ cG : ClassId) (h : Nat) (ad : Nat → Nat) (sz : Nat) (u : kU) (P : Nat → kIns) (n : Nat) (hst : kSt P n u) (vk vr : Int32) : kXi l D (kty cI cZ cG) y0_giver (.code y0_giver c0_giver 4 (some .int)) ({ frames := 7, cells := 2, slots := 12, locals := 120 }) [.ref h, .int vk, .int vr] (kwC h ad cI cZ cG) u sz (fun v x => (∃ k r, k < n ∧ vk = nI k ∧ 1 ≤ r ∧ r ≤ 15 ∧ vr = nI r ∧ v = kenc (mt_last P r k)) ∧ x = u) (fun E => (E = kIAE ∧ ¬ kReg vr) ∨ (E = kIOB ∧ kReg vr ∧ ¬ kIx vk n)) := by
  refine vx_ofW (cc := c0_giver) (maxL := 4) (ret := (some .int)) (by decide) rfl ?_
  intro p e s m args below meth c s₁ B hml hnt hv
  obtain ⟨rfl, hsz, hP, hK, hD0, hE, hZ⟩ := hv
  have hx := B.exec
  have hb := B.bytes
  have hr := B.returns
  have hts := atoms_spec (ws := Cond.code y0_giver c0_giver 4 (some .int) :: kBIG) B.pre
  have hB : ∀ w ∈ kBIG, w.before _ s = true := fun w q => hts w (List.mem_cons_of_mem _ q)
  have hown : s.vm.findClass "StageClock" = some m.cls := findClass_of_methodNamed B.named
  have hlocks := B.notSynchronized
  subst hsz
  have hD := hD0.self (sz := s.heap.size)
  generalize hAe : va_A (kwC h ad cI cZ cG u) s.heap.size = A at hD hZ ⊢
  have hA : ∀ q : Nat, s.heap.size ≤ q → A q := fun q h => by rw [← hAe]; exact Or.inr h
  have hI : kI D A s.heap (kwC h ad cI cZ cG u) s.heap [] := ⟨hP, hD, va_S.rf⟩
  have hl := lv_entry ([.ref h, .int vk, .int vr]) (n := 4) (Nat.le_of_ble_eq_true rfl)
  rw [lg_entry_eq]
  generalize (lg_sl ([.ref h, .int vk, .int vr]) ++ List.replicate (4 - (lg_sl ([.ref h, .int vk, .int vr])).length) Slot.unset).toArray = ls at hl ⊢
  have hl : lv_has ls 4 [(0, .ref h), (1, .int vk), (2, .int vr)] := hl
  have hin := hst.1
  have hn := hin.2.1
  refine lv_iload_n hx hb d0_giver_0 rfl (lv_at hl 2 rfl) ?_
  refine lv_iconst (v := nI 1) hx hb d0_giver_1 (by decide) ?_
  refine lv_icmp_lt (tgt := 11) hx hb d0_giver_2 (by decide) (fun hc => ?_) (fun hc => ?_)
  · skip
    exact kthr (cls := kIAE) (is := 82) (ik := 69) (u := u) (wf := kwC h ad cI cZ cG) (List.mem_of_getElem? (i := 6) rfl) hx hb hl0 hB hown hK hI hE hZ (by decide +kernel) kw_67 kw_6 kat_I kan_I kag_I (hl.1.trans hml.symm) hnt hlocks d0_giver_11 d0_giver_14 d0_giver_15 d0_giver_17 d0_giver_20 (Nat.le_of_ble_eq_true rfl) (Nat.le_of_ble_eq_true rfl) (Nat.le_of_ble_eq_true rfl) (Nat.le_of_ble_eq_true rfl) (Nat.le_of_ble_eq_true rfl) (Nat.le_of_ble_eq_true rfl) (Or.inl ⟨rfl, kReg_lt hc⟩)
  · skip
    have f1 := hc
    refine lv_iload_n hx hb d0_giver_5 rfl (lv_at hl 2 rfl) ?_
    refine lv_bipush (v := nI 15) hx hb d0_giver_6 (by decide) ?_
    refine lv_icmp_le (tgt := 21) hx hb d0_giver_8 (by decide) (fun hc => ?_) (fun hc => ?_)
    · skip
      have hw := kReg_of f1 hc
      refine lv_aload_n hx hb d0_giver_21 rfl (lv_at hl 0 rfl) ?_
      refine lv_iload_n hx hb d0_giver_22 rfl (lv_at hl 1 rfl) ?_
      refine kcall_x (n := 1) (u := u) (wf := kwC h ad cI cZ cG) (As := [.int vk]) (b := h) (rest := []) hx hb hml hown hB hK hI hA hE hZ (C0_requireInstruction l hl0 D cI cZ cG h ad s.heap.size u vk) (kgV kw_202 kw_204 ks0_requireInstruction kw_1 kw_205) (by decide +kernel) ⟨Nat.le_of_ble_eq_true rfl, Nat.le_of_ble_eq_true rfl⟩ (va_recv (q0 := 0) (ci := 0) hK hI.1 rfl rfl) rfl hl.1 (Nat.le_of_ble_eq_true rfl) d0_giver_23 ⟨Nat.le_of_ble_eq_true rfl, Nat.le_of_ble_eq_true rfl⟩ rfl hnt hlocks (fun E q => Or.inr ⟨q.1, hw, q.2.elim (kIx_neg (by omega)) (fun z => kIx_ge (by omega) (by rw [← hin.1]; exact z))⟩) (Nat.le_of_ble_eq_true rfl) (Nat.le_of_ble_eq_true rfl) (fun xa H locs hq hI => ?_)
      obtain ⟨hxu, hk0, hk1⟩ := hq
      rw [hxu] at hI
      rw [hin.1] at hk1
      obtain ⟨k, hkn, rfl⟩ := kIx_of (by omega) hk0 hk1
      obtain ⟨r, hr1, hr15, rfl⟩ := hw
      refine lv_iload_n hx hb d0_giver_26 rfl (lv_at hl 1 rfl) ?_
      refine lv_iconst (v := nI 1) hx hb d0_giver_27 (by decide) ?_
      refine k_isub (v := nI k - nI 1) hx hb (rfl) d0_giver_28 ?_
      refine lv_istore_n hx hb d0_giver_29 rfl hl (by decide) rfl (fun ls hl => ?_)
      have hl : lv_has ls 4 [(3, .int (nI k - nI 1)), (0, .ref h), (1, .int (nI k)), (2, .int (nI r))] := hl
      refine L0_giver l D cI cZ cG h ad u P n hin k r hkn hr15 hx hb hml hown hB hK hA hE hZ (fun ls H locs j hj hl hI => ?_) (fun ls H locs a hj hl hI => ?_) k ls H locs (Nat.le_refl _) rfl (lv_sub hl [0, 1, 2, 3] rfl) hI
      · skip
        refine lv_iload_n hx hb d0_giver_44 rfl (lv_at hl 0 rfl) ?_
        exact kret_xi (x := u) (wf := kwC h ad cI cZ cG) (Nat.le_of_ble_eq_true rfl) (Nat.le_of_ble_eq_true rfl) hx hb hr hlocks hK hI (⟨⟨k, r, hkn, rfl, hr1, hr15, rfl, by rw [hj]; rfl⟩, rfl⟩) d0_giver_45
      · skip
        refine lv_iconst (v := -1) hx hb d0_giver_52 (by decide) ?_
        exact kret_xi (x := u) (wf := kwC h ad cI cZ cG) (Nat.le_of_ble_eq_true rfl) (Nat.le_of_ble_eq_true rfl) hx hb hr hlocks hK hI (⟨⟨k, r, hkn, rfl, hr1, hr15, rfl, by rw [hj]; rfl⟩, rfl⟩) d0_giver_53
    · skip
      exact kthr (cls := kIAE) (is := 82) (ik := 69) (u := u) (wf := kwC h ad cI cZ cG) (List.mem_of_getElem? (i := 6) rfl) hx hb hl0 hB hown hK hI hE hZ (by decide +kernel) kw_67 kw_6 kat_I kan_I kag_I (hl.1.trans hml.symm) hnt hlocks d0_giver_11 d0_giver_14 d0_giver_15 d0_giver_17 d0_giver_20 (Nat.le_of_ble_eq_true rfl) (Nat.le_of_ble_eq_true rfl) (Nat.le_of_ble_eq_true rfl) (Nat.le_of_ble_eq_true rfl) (Nat.le_of_ble_eq_true rfl) (Nat.le_of_ble_eq_true rfl) (Or.inl ⟨rfl, kReg_gt hc⟩)
set_option maxHeartbeats 4000000 in
set_option maxRecDepth 100000 in
theorem C0_lastCycleIn (l : Launch) (D : va_G) (cI cZ cG : ClassId) (h : Nat) (ad : Nat → Nat) (sz : Nat) (u : kU) (P : Nat → kIns) (n : Nat) (hst : kSt P n u) (st i : Nat) (hs5 : st < 5) (hi : i < n) : kMi l D (kty cI cZ cG) y0_lastCycleIn (.code y0_lastCycleIn c0_lastCycleIn 3 (some .int)) ({ frames := 0, cells := 0, slots := 0, locals := 0 }) [.ref h, .int (nI st), .int (nI i)] (kwC h ad cI cZ cG) u sz (fun v x => v = nI (mt_from P i (st + 1)) - nI 1 ∧ x = u) := by
  refine Met.ofW (cc := c0_lastCycleIn) (maxL := 3) (ret := (some .int)) (by decide) rfl ?_
  intro p e s m args below meth c s₁ B hml hv
  obtain ⟨rfl, hsz, hP, hK, hD0, hE, hZ⟩ := hv
  have hx := B.exec
  have hb := B.bytes
  have hr := B.returns
  have hts := atoms_spec (ws := Cond.code y0_lastCycleIn c0_lastCycleIn 3 (some .int) :: kBIG) B.pre
  have hB : ∀ w ∈ kBIG, w.before _ s = true := fun w q => hts w (List.mem_cons_of_mem _ q)
  have hown : s.vm.findClass "StageClock" = some m.cls := findClass_of_methodNamed B.named
  have hlocks := B.notSynchronized
  subst hsz
  have hD := hD0.self (sz := s.heap.size)
  generalize hAe : va_A (kwC h ad cI cZ cG u) s.heap.size = A at hD hZ ⊢
  have hA : ∀ q : Nat, s.heap.size ≤ q → A q := fun q h => by rw [← hAe]; exact Or.inr h
  have hI : kI D A s.heap (kwC h ad cI cZ cG u) s.heap [] := ⟨hP, hD, va_S.rf⟩
  have hl := lv_entry ([.ref h, .int (nI st), .int (nI i)]) (n := 3) (Nat.le_of_ble_eq_true rfl)
  rw [lg_entry_eq]
  generalize (lg_sl ([.ref h, .int (nI st), .int (nI i)]) ++ List.replicate (3 - (lg_sl ([.ref h, .int (nI st), .int (nI i)])).length) Slot.unset).toArray = ls at hl ⊢
  have hl : lv_has ls 3 [(0, .ref h), (1, .int (nI st)), (2, .int (nI i))] := hl
  have hin := hst.1
  have hn := hin.2.1
  refine lv_iload_n hx hb d0_lastCycleIn_0 rfl (lv_at hl 1 rfl) ?_
  refine lv_iconst (v := nI 4) hx hb d0_lastCycleIn_1 (by decide) ?_
  refine lv_icmp_ne (tgt := 16) hx hb d0_lastCycleIn_2 (by decide) (fun hc => ?_) (fun hc => ?_)
  · skip
    have h4 : st < 4 := by have : st ≠ 4 := fun q => hc (by rw [q]); omega
    refine lv_aload_n hx hb d0_lastCycleIn_16 rfl (lv_at hl 0 rfl) ?_
    refine kC_g7 hx hb hB hown hK hI d0_lastCycleIn_17 ?_
    refine lv_iload_n hx hb d0_lastCycleIn_20 rfl (lv_at hl 1 rfl) ?_
    refine lv_iconst (v := nI 1) hx hb d0_lastCycleIn_21 (by decide) ?_
    refine k_iadd (v := nI (st + 1)) hx hb (nI_add _ _) d0_lastCycleIn_22 ?_
    refine kC_row hx hb hK hI (st + 1) (by omega) (rfl) d0_lastCycleIn_23 ?_
    refine lv_iload_n hx hb d0_lastCycleIn_24 rfl (lv_at hl 2 rfl) ?_
    refine kC_lr (v := nI (mt_when P i (st + 1))) hx hb hK hI (st + 1) (by omega) i (by omega) (rfl) (kRow_when (hst.2 i hi) (by omega)) d0_lastCycleIn_25 ?_
    refine lv_iconst (v := nI 1) hx hb d0_lastCycleIn_26 (by decide) ?_
    refine k_isub (v := nI (mt_when P i (st + 1)) - nI 1) hx hb (rfl) d0_lastCycleIn_27 ?_
    exact kret_i (x := u) (wf := kwC h ad cI cZ cG) hx hb hr hlocks hK hI (⟨by rw [kfrom_lt (by omega)], rfl⟩) d0_lastCycleIn_28
  · skip
    have h4 : st = 4 := (nI_eq (by omega) (by omega)).mp hc
    subst h4
    refine lv_aload_n hx hb d0_lastCycleIn_5 rfl (lv_at hl 0 rfl) ?_
    refine kC_g7 hx hb hB hown hK hI d0_lastCycleIn_6 ?_
    refine lv_iconst (v := nI 4) hx hb d0_lastCycleIn_9 (by decide) ?_
    refine kC_row hx hb hK hI 4 (by decide) (rfl) d0_lastCycleIn_10 ?_
    refine lv_iload_n hx hb d0_lastCycleIn_11 rfl (lv_at hl 2 rfl) ?_
    refine kC_l12 (v := nI (mt_when P i 4)) hx hb hK hI i (by omega) (rfl) (kRow_when (j := 4) (hst.2 i hi) (by decide)) d0_lastCycleIn_12 ?_
    refine lv_goto (tgt := 28) hx hb d0_lastCycleIn_13 (by decide) ?_
    exact kret_i (x := u) (wf := kwC h ad cI cZ cG) hx hb hr hlocks hK hI (⟨(kfrom_5 P i).symm, rfl⟩) d0_lastCycleIn_28
set_option maxHeartbeats 4000000 in
set_option maxRecDepth 100000 in
theorem C0_lastW (l : Launch) (D : va_G) (cI cZ cG : ClassId) (h : Nat) (ad : Nat → Nat) (sz : Nat) (u : kU) (P : Nat → kIns) (n : Nat) (hst : kSt P n u)  : kMi l D (kty cI cZ cG) y0_lastW (.code y0_lastW c0_lastW 1 (some .int)) ({ frames := 0, cells := 0, slots := 0, locals := 0 }) [.ref h] (kwC h ad cI cZ cG) u sz (fun v x => v = nI (mt_lw P n) ∧ x = u) := by
  refine Met.ofW (cc := c0_lastW) (maxL := 1) (ret := (some .int)) (by decide) rfl ?_
  intro p e s m args below meth c s₁ B hml hv
  obtain ⟨rfl, hsz, hP, hK, hD0, hE, hZ⟩ := hv
  have hx := B.exec
  have hb := B.bytes
  have hr := B.returns
  have hts := atoms_spec (ws := Cond.code y0_lastW c0_lastW 1 (some .int) :: kBIG) B.pre
  have hB : ∀ w ∈ kBIG, w.before _ s = true := fun w q => hts w (List.mem_cons_of_mem _ q)
  have hown : s.vm.findClass "StageClock" = some m.cls := findClass_of_methodNamed B.named
  have hlocks := B.notSynchronized
  subst hsz
  have hD := hD0.self (sz := s.heap.size)
  generalize hAe : va_A (kwC h ad cI cZ cG u) s.heap.size = A at hD hZ ⊢
  have hA : ∀ q : Nat, s.heap.size ≤ q → A q := fun q h => by rw [← hAe]; exact Or.inr h
  have hI : kI D A s.heap (kwC h ad cI cZ cG u) s.heap [] := ⟨hP, hD, va_S.rf⟩
  have hl := lv_entry ([.ref h]) (n := 1) (Nat.le_of_ble_eq_true rfl)
  rw [lg_entry_eq]
  generalize (lg_sl ([.ref h]) ++ List.replicate (1 - (lg_sl ([.ref h])).length) Slot.unset).toArray = ls at hl ⊢
  have hl : lv_has ls 1 [(0, .ref h)] := hl
  have hin := hst.1
  have hn := hin.2.1
  refine lv_aload_n hx hb d0_lastW_0 rfl (lv_at hl 0 rfl) ?_
  refine kC_g9 hx hb hB hown hK hI d0_lastW_1 ?_
  rw [show u 15 0 = nI n from hin.1]
  refine lv_if_ne (tgt := 11) hx hb d0_lastW_4 (by decide) (fun hc => ?_) (fun hc => ?_)
  · skip
    obtain ⟨a, rfl⟩ := knI_s hc
    refine lv_aload_n hx hb d0_lastW_11 rfl (lv_at hl 0 rfl) ?_
    refine kC_g7 hx hb hB hown hK hI d0_lastW_12 ?_
    refine lv_iconst (v := nI 4) hx hb d0_lastW_15 (by decide) ?_
    refine kC_row hx hb hK hI 4 (by decide) (rfl) d0_lastW_16 ?_
    refine lv_aload_n hx hb d0_lastW_17 rfl (lv_at hl 0 rfl) ?_
    refine kC_g9 hx hb hB hown hK hI d0_lastW_18 ?_
    rw [show u 15 0 = nI (a + 1) from hin.1]
    refine lv_iconst (v := nI 1) hx hb d0_lastW_21 (by decide) ?_
    refine k_isub (v := nI a) hx hb (pk_sub (by omega)) d0_lastW_22 ?_
    refine kC_l12 (v := nI (mt_tm P a).2.2.2.2) hx hb hK hI a (by omega) (rfl) ((hst.2 a (by omega)).2.2.2.2.1) d0_lastW_23 ?_
    exact kret_i (x := u) (wf := kwC h ad cI cZ cG) hx hb hr hlocks hK hI (⟨rfl, rfl⟩) d0_lastW_24
  · skip
    have e := knI_z (by omega) hc
    subst e
    refine lv_iconst (v := nI 0) hx hb d0_lastW_7 (by decide) ?_
    refine lv_goto (tgt := 24) hx hb d0_lastW_8 (by decide) ?_
    exact kret_i (x := u) (wf := kwC h ad cI cZ cG) hx hb hr hlocks hK hI (⟨rfl, rfl⟩) d0_lastW_24
set_option maxHeartbeats 4000000 in
set_option maxRecDepth 100000 in
theorem L0_countWrong {p : Program} {e : Env} {s : State} {m : MethodId} {args : Array Value} {below : List Frame} {meth : Method} {c : Code} {Q : State → Prop} {A : Nat → Prop} (l : Launch) (D : va_G) (cI cZ cG : ClassId) (h : Nat) (ad : Nat → Nat) (u : kU) (P : Nat → kIns) (n : Nat) (hin : kIn P n u)  (hx : p.tables.exec = Jvm.exec) (hb : c.code = c0_countWrong) (hml : c.maxLocals = 3) (hown : s.vm.findClass "StageClock" = some m.cls) (hB : ∀ w ∈ kBIG, w.before args s = true) (hK : va_K D kcl (kty cI cZ cG) s) (hA : ∀ q : Nat, s.heap.size ≤ q → A q) (hE : kE s) (hZ : kZ A s s.heap)
    (kk : ∀ (ls : Array Slot) (H : Heap) (locs : List Loc), lv_has ls 3 [(2, .int (nI n)), (1, .int (nI (mt_cw P n))), (0, .ref h)] → kI D A s.heap (kwC h ad cI cZ cG u) H locs → W p l e ({ frames := 0, cells := 0, slots := 0, locals := 0 } : Room) s m args below meth c H locs 0 0 Q (F0 m 30 ls []))
    : ∀ (d : Nat) (ls : Array Slot) (H : Heap) (locs : List Loc) (i : Nat) (hd : i + d = n), lv_has ls 3 [(2, .int (nI i)), (1, .int (nI (mt_cw P i))), (0, .ref h)] → kI D A s.heap (kwC h ad cI cZ cG u) H locs → W p l e ({ frames := 0, cells := 0, slots := 0, locals := 0 } : Room) s m args below meth c H locs 0 0 Q (F0 m 4 ls []) := by
  have hn := hin.2.1
  intro d
  induction d with
  | zero =>
    intro ls H locs i hd hl hI
    obtain rfl : i = n := by omega
    refine lv_iload_n hx hb d0_countWrong_4 rfl (lv_at hl 0 rfl) ?_
    refine lv_aload_n hx hb d0_countWrong_5 rfl (lv_at hl 2 rfl) ?_
    refine kC_g9 hx hb hB hown hK hI d0_countWrong_6 ?_
    rw [show u 15 0 = nI i from hin.1]
    refine lv_icmp_ge (tgt := 30) hx hb d0_countWrong_9 (by decide) (fun hc => ?_) (fun hc => ?_)
    · skip
      exact kk ls H locs hl hI
    · exact absurd (nI_le (Nat.le_refl _) (by omega)) hc
  | succ d ih =>
    intro ls H locs i hd hl hI
    refine lv_iload_n hx hb d0_countWrong_4 rfl (lv_at hl 0 rfl) ?_
    refine lv_aload_n hx hb d0_countWrong_5 rfl (lv_at hl 2 rfl) ?_
    refine kC_g9 hx hb hB hown hK hI d0_countWrong_6 ?_
    rw [show u 15 0 = nI n from hin.1]
    refine lv_icmp_ge (tgt := 30) hx hb d0_countWrong_9 (by decide) (fun hc => ?_) (fun hc => ?_)
    · exact absurd hc (nI_ge (by omega) (by omega))
    · skip
      refine lv_aload_n hx hb d0_countWrong_12 rfl (lv_at hl 2 rfl) ?_
      refine kC_g6 hx hb hB hown hK hI d0_countWrong_13 ?_
      refine lv_iload_n hx hb d0_countWrong_16 rfl (lv_at hl 0 rfl) ?_
      refine kC_l6 (v := kb (mt_wr (P i))) hx hb hK hI i (by omega) (rfl) ((hin.2.2 i (by omega)).2.2.2.2.2.2.2) d0_countWrong_17 ?_
      refine lv_if_eq (tgt := 24) hx hb d0_countWrong_18 (by decide) (fun hc => ?_) (fun hc => ?_)
      · skip
        have hcw : mt_cw P (i + 1) = mt_cw P i := mt_cw_f (kb_0 hc)
        refine lv_iinc (k := 0) (v := nI (i + 1)) hx hb d0_countWrong_24 hl rfl (by rw [show Int32.ofInt 1 = 1 by decide]; exact nI_1 _) (by decide) rfl (fun ls hl => ?_)
        have hl : lv_has ls 3 [(2, .int (nI (i + 1))), (1, .int (nI (mt_cw P i))), (0, .ref h)] := hl
        refine lv_goto (tgt := 4) hx hb d0_countWrong_27 (by decide) ?_
        exact ih ls H locs (i + 1) (by omega) (by rw [hcw]; exact (lv_sub hl [0, 1, 2] rfl)) hI
      · skip
        have hcw : mt_cw P (i + 1) = mt_cw P i + 1 := mt_cw_t (kb_1 hc)
        refine lv_iinc (k := 1) (v := nI ((mt_cw P i) + 1)) hx hb d0_countWrong_21 hl rfl (by rw [show Int32.ofInt 1 = 1 by decide]; exact nI_1 _) (by decide) rfl (fun ls hl => ?_)
        have hl : lv_has ls 3 [(1, .int (nI ((mt_cw P i) + 1))), (2, .int (nI i)), (0, .ref h)] := hl
        refine lv_iinc (k := 1) (v := nI (i + 1)) hx hb d0_countWrong_24 hl rfl (by rw [show Int32.ofInt 1 = 1 by decide]; exact nI_1 _) (by decide) rfl (fun ls hl => ?_)
        have hl : lv_has ls 3 [(2, .int (nI (i + 1))), (1, .int (nI ((mt_cw P i) + 1))), (0, .ref h)] := hl
        refine lv_goto (tgt := 4) hx hb d0_countWrong_27 (by decide) ?_
        exact ih ls H locs (i + 1) (by omega) (by rw [hcw]; exact (lv_sub hl [0, 1, 2] rfl)) hI
set_option maxHeartbeats 4000000 in
set_option maxRecDepth 100000 in
theorem C0_countWrong (l : Launch) (D : va_G) (cI cZ cG : ClassId) (h : Nat) (ad : Nat → Nat) (sz : Nat) (u : kU) (P : Nat → kIns) (n : Nat) (hst : kSt P n u)  : kMi l D (kty cI cZ cG) y0_countWrong (.code y0_countWrong c0_countWrong 3 (some .int)) ({ frames := 0, cells := 0, slots := 0, locals := 0 }) [.ref h] (kwC h ad cI cZ cG) u sz (fun v x => v = nI (mt_cw P n) ∧ x = u) := by
  refine Met.ofW (cc := c0_countWrong) (maxL := 3) (ret := (some .int)) (by decide) rfl ?_
  intro p e s m args below meth c s₁ B hml hv
  obtain ⟨rfl, hsz, hP, hK, hD0, hE, hZ⟩ := hv
  have hx := B.exec
  have hb := B.bytes
  have hr := B.returns
  have hts := atoms_spec (ws := Cond.code y0_countWrong c0_countWrong 3 (some .int) :: kBIG) B.pre
  have hB : ∀ w ∈ kBIG, w.before _ s = true := fun w q => hts w (List.mem_cons_of_mem _ q)
  have hown : s.vm.findClass "StageClock" = some m.cls := findClass_of_methodNamed B.named
  have hlocks := B.notSynchronized
  subst hsz
  have hD := hD0.self (sz := s.heap.size)
  generalize hAe : va_A (kwC h ad cI cZ cG u) s.heap.size = A at hD hZ ⊢
  have hA : ∀ q : Nat, s.heap.size ≤ q → A q := fun q h => by rw [← hAe]; exact Or.inr h
  have hI : kI D A s.heap (kwC h ad cI cZ cG u) s.heap [] := ⟨hP, hD, va_S.rf⟩
  have hl := lv_entry ([.ref h]) (n := 3) (Nat.le_of_ble_eq_true rfl)
  rw [lg_entry_eq]
  generalize (lg_sl ([.ref h]) ++ List.replicate (3 - (lg_sl ([.ref h])).length) Slot.unset).toArray = ls at hl ⊢
  have hl : lv_has ls 3 [(0, .ref h)] := hl
  have hin := hst.1
  have hn := hin.2.1
  refine lv_iconst (v := nI 0) hx hb d0_countWrong_0 (by decide) ?_
  refine lv_istore_n hx hb d0_countWrong_1 rfl hl (by decide) rfl (fun ls hl => ?_)
  have hl : lv_has ls 3 [(1, .int (nI 0)), (0, .ref h)] := hl
  refine lv_iconst (v := nI 0) hx hb d0_countWrong_2 (by decide) ?_
  refine lv_istore_n hx hb d0_countWrong_3 rfl hl (by decide) rfl (fun ls hl => ?_)
  have hl : lv_has ls 3 [(2, .int (nI 0)), (1, .int (nI 0)), (0, .ref h)] := hl
  refine L0_countWrong l D cI cZ cG h ad u P n hin hx hb hml hown hB hK hA hE hZ (fun ls H locs hl hI => ?_) n ls s.heap [] 0 (Nat.zero_add _) (lv_sub hl [0, 1, 2] rfl) hI
  refine lv_iload_n hx hb d0_countWrong_30 rfl (lv_at hl 1 rfl) ?_
  exact kret_i (x := u) (wf := kwC h ad cI cZ cG) hx hb hr hlocks hK hI (⟨rfl, rfl⟩) d0_countWrong_31
set_option maxHeartbeats 4000000 in
set_option maxRecDepth 100000 in
theorem L0_in {p : Program} {e : Env} {s : State} {m : MethodId} {args : Array Value} {below : List Frame} {meth : Method} {c : Code} {Q : State → Prop} {A : Nat → Prop} (l : Launch) (D : va_G) (cI cZ cG : ClassId) (h : Nat) (ad : Nat → Nat) (u : kU) (P : Nat → kIns) (n : Nat) (hst : kSt P n u) (st : Nat) (hs5 : st < 5) (cy : Int32) (hx : p.tables.exec = Jvm.exec) (hb : c.code = c0_in) (hml : c.maxLocals = 4) (hown : s.vm.findClass "StageClock" = some m.cls) (hB : ∀ w ∈ kBIG, w.before args s = true) (hK : va_K D kcl (kty cI cZ cG) s) (hA : ∀ q : Nat, s.heap.size ≤ q → A q) (hE : kE s) (hZ : kZ A s s.heap)
    (kk1 : ∀ (ls : Array Slot) (H : Heap) (locs : List Loc) (i : Nat) (hj : mt_scan (mt_hit P st cy) n 0 = nI i), lv_has ls 4 [(3, .int (nI i)), (0, .ref h), (1, .int (nI st)), (2, .int cy)] → kI D A s.heap (kwC h ad cI cZ cG u) H locs → W p l e ({ frames := 7, cells := 2, slots := 12, locals := 120 } : Room) s m args below meth c H locs 0 0 Q (F0 m 51 ls []))
    (kk2 : ∀ (ls : Array Slot) (H : Heap) (locs : List Loc) (i : Nat) (hj : mt_scan (mt_hit P st cy) n 0 = -1), lv_has ls 4 [(3, .int (nI i)), (0, .ref h), (1, .int (nI st)), (2, .int cy)] → kI D A s.heap (kwC h ad cI cZ cG u) H locs → W p l e ({ frames := 7, cells := 2, slots := 12, locals := 120 } : Room) s m args below meth c H locs 0 0 Q (F0 m 59 ls []))
    : ∀ (d : Nat) (ls : Array Slot) (H : Heap) (locs : List Loc) (i : Nat) (hd : i + d = n) (hm : mt_scan (mt_hit P st cy) n 0 = mt_scan (mt_hit P st cy) d i), lv_has ls 4 [(3, .int (nI i)), (0, .ref h), (1, .int (nI st)), (2, .int cy)] → kI D A s.heap (kwC h ad cI cZ cG u) H locs → W p l e ({ frames := 7, cells := 2, slots := 12, locals := 120 } : Room) s m args below meth c H locs 0 0 Q (F0 m 21 ls []) := by
  have hin := hst.1
  have hn := hin.2.1
  intro d
  induction d with
  | zero =>
    intro ls H locs i hd hm hl hI
    obtain rfl : i = n := by omega
    refine lv_iload_n hx hb d0_in_21 rfl (lv_at hl 0 rfl) ?_
    refine lv_aload_n hx hb d0_in_22 rfl (lv_at hl 1 rfl) ?_
    refine kC_g9 hx hb hB hown hK hI d0_in_23 ?_
    rw [show u 15 0 = nI i from hin.1]
    refine lv_icmp_ge (tgt := 59) hx hb d0_in_26 (by decide) (fun hc => ?_) (fun hc => ?_)
    · skip
      exact kk2 ls H locs _ hm hl hI
    · exact absurd (nI_le (Nat.le_refl _) (by omega)) hc
  | succ d ih =>
    intro ls H locs i hd hm hl hI
    have hwl := mt_when_le (P := P) (k := i) (fun j hj => (hin.2.2 j (by omega)).1)
    have hfl := hwl st
    have hgl := kfrom_le (P := P) (k := i) (fun j hj => (hin.2.2 j (by omega)).1) (st + 1)
    have hft : mt_from P i st = mt_when P i st := kfrom_lt hs5
    refine lv_iload_n hx hb d0_in_21 rfl (lv_at hl 0 rfl) ?_
    refine lv_aload_n hx hb d0_in_22 rfl (lv_at hl 1 rfl) ?_
    refine kC_g9 hx hb hB hown hK hI d0_in_23 ?_
    rw [show u 15 0 = nI n from hin.1]
    refine lv_icmp_ge (tgt := 59) hx hb d0_in_26 (by decide) (fun hc => ?_) (fun hc => ?_)
    · exact absurd hc (nI_ge (by omega) (by omega))
    · skip
      refine lv_aload_n hx hb d0_in_29 rfl (lv_at hl 1 rfl) ?_
      refine kC_g7 hx hb hB hown hK hI d0_in_30 ?_
      refine lv_iload_n hx hb d0_in_33 rfl (lv_at hl 2 rfl) ?_
      refine kC_row hx hb hK hI st (by omega) (rfl) d0_in_34 ?_
      refine lv_iload_n hx hb d0_in_35 rfl (lv_at hl 0 rfl) ?_
      refine kC_lr (v := nI (mt_when P i st)) hx hb hK hI st (by omega) i (by omega) (rfl) (kRow_when (hst.2 i (by omega)) (by omega)) d0_in_36 ?_
      refine lv_iload_n hx hb d0_in_37 rfl (lv_at hl 3 rfl) ?_
      refine lv_icmp_gt (tgt := 53) hx hb d0_in_38 (by decide) (fun hc => ?_) (fun hc => ?_)
      · skip
        have hno : mt_hit P st cy i = false := decide_eq_false (fun q => (Int32.not_le.mpr hc) (by rw [← hft]; exact q.1))
        refine lv_iinc (k := 0) (v := nI (i + 1)) hx hb d0_in_53 hl rfl (by rw [show Int32.ofInt 1 = 1 by decide]; exact nI_1 _) (by decide) rfl (fun ls hl => ?_)
        have hl : lv_has ls 4 [(3, .int (nI (i + 1))), (0, .ref h), (1, .int (nI st)), (2, .int cy)] := hl
        refine lv_goto (tgt := 21) hx hb d0_in_56 (by decide) ?_
        exact ih ls H locs (i + 1) (by omega) (hm.trans (if_neg (by rw [hno]; decide))) (lv_sub hl [0, 1, 2, 3] rfl) hI
      · skip
        have hge := Int32.not_lt.mp hc
        refine lv_iload_n hx hb d0_in_41 rfl (lv_at hl 3 rfl) ?_
        refine lv_aload_n hx hb d0_in_42 rfl (lv_at hl 1 rfl) ?_
        refine lv_iload_n hx hb d0_in_43 rfl (lv_at hl 2 rfl) ?_
        refine lv_iload_n hx hb d0_in_44 rfl (lv_at hl 0 rfl) ?_
        refine kcall_i (n := 2) (u := u) (wf := kwC h ad cI cZ cG) (As := [.int (nI st), .int (nI i)]) (b := h) (rest := [.int cy]) hx hb hml hown hB hK hI hA hE hZ (C0_lastCycleIn l D cI cZ cG h ad H.size u P n hst st i hs5 (by omega)) (kgV kw_246 kw_248 ks0_lastCycleIn kw_1 kw_249) (by decide +kernel) ⟨Nat.le_of_ble_eq_true rfl, Nat.le_of_ble_eq_true rfl⟩ (va_recv (q0 := 0) (ci := 0) hK hI.1 rfl rfl) rfl hl.1 (Nat.le_of_ble_eq_true rfl) d0_in_45 ⟨Nat.le_of_ble_eq_true rfl, Nat.le_of_ble_eq_true rfl⟩ rfl (fun ra xa H locs hq hI => ?_)
        obtain ⟨hv, hxu⟩ := hq
        rw [hxu] at hI
        rw [hv]
        refine lv_icmp_gt (tgt := 53) hx hb d0_in_48 (by decide) (fun hc => ?_) (fun hc => ?_)
        · skip
          have hno : mt_hit P st cy i = false := decide_eq_false (fun q => (kcyc (by omega)).mp hc q.2)
          refine lv_iinc (k := 0) (v := nI (i + 1)) hx hb d0_in_53 hl rfl (by rw [show Int32.ofInt 1 = 1 by decide]; exact nI_1 _) (by decide) rfl (fun ls hl => ?_)
          have hl : lv_has ls 4 [(3, .int (nI (i + 1))), (0, .ref h), (1, .int (nI st)), (2, .int cy)] := hl
          refine lv_goto (tgt := 21) hx hb d0_in_56 (by decide) ?_
          exact ih ls H locs (i + 1) (by omega) (hm.trans (if_neg (by rw [hno]; decide))) (lv_sub hl [0, 1, 2, 3] rfl) hI
        · skip
          have hyes : mt_hit P st cy i = true := decide_eq_true ⟨by rw [hft]; exact hge, Decidable.not_not.mp (fun q => hc ((kcyc (by omega)).mpr q))⟩
          exact kk1 ls H locs i (hm.trans (if_pos hyes)) (lv_sub hl [0, 1, 2, 3] rfl) hI
set_option maxHeartbeats 4000000 in
set_option maxRecDepth 100000 in
theorem C0_in (l : Launch) (hl0 : l.stackTraces = false) (D : va_G) (cI cZ cG : ClassId) (h : Nat) (ad : Nat → Nat) (sz : Nat) (u : kU) (P : Nat → kIns) (n : Nat) (hst : kSt P n u) (vs cy : Int32) : kXi l D (kty cI cZ cG) y0_in (.code y0_in c0_in 4 (some .int)) ({ frames := 7, cells := 2, slots := 12, locals := 120 }) [.ref h, .int vs, .int cy] (kwC h ad cI cZ cG) u sz (fun v x => (∃ st, st < 5 ∧ vs = nI st ∧ v = mt_scan (mt_hit P st cy) n 0) ∧ x = u) (fun E => E = kIAE ∧ ¬ kIx vs 5) := by
  refine vx_ofW (cc := c0_in) (maxL := 4) (ret := (some .int)) (by decide) rfl ?_
  intro p e s m args below meth c s₁ B hml hnt hv
  obtain ⟨rfl, hsz, hP, hK, hD0, hE, hZ⟩ := hv
  have hx := B.exec
  have hb := B.bytes
  have hr := B.returns
  have hts := atoms_spec (ws := Cond.code y0_in c0_in 4 (some .int) :: kBIG) B.pre
  have hB : ∀ w ∈ kBIG, w.before _ s = true := fun w q => hts w (List.mem_cons_of_mem _ q)
  have hown : s.vm.findClass "StageClock" = some m.cls := findClass_of_methodNamed B.named
  have hlocks := B.notSynchronized
  subst hsz
  have hD := hD0.self (sz := s.heap.size)
  generalize hAe : va_A (kwC h ad cI cZ cG u) s.heap.size = A at hD hZ ⊢
  have hA : ∀ q : Nat, s.heap.size ≤ q → A q := fun q h => by rw [← hAe]; exact Or.inr h
  have hI : kI D A s.heap (kwC h ad cI cZ cG u) s.heap [] := ⟨hP, hD, va_S.rf⟩
  have hl := lv_entry ([.ref h, .int vs, .int cy]) (n := 4) (Nat.le_of_ble_eq_true rfl)
  rw [lg_entry_eq]
  generalize (lg_sl ([.ref h, .int vs, .int cy]) ++ List.replicate (4 - (lg_sl ([.ref h, .int vs, .int cy])).length) Slot.unset).toArray = ls at hl ⊢
  have hl : lv_has ls 4 [(0, .ref h), (1, .int vs), (2, .int cy)] := hl
  have hin := hst.1
  have hn := hin.2.1
  refine lv_iload_n hx hb d0_in_0 rfl (lv_at hl 1 rfl) ?_
  refine lv_if_lt (tgt := 9) hx hb d0_in_1 (by decide) (fun hc => ?_) (fun hc => ?_)
  · skip
    exact kthr (cls := kIAE) (is := 76) (ik := 69) (u := u) (wf := kwC h ad cI cZ cG) (List.mem_of_getElem? (i := 5) rfl) hx hb hl0 hB hown hK hI hE hZ (by decide +kernel) kw_67 kw_6 kat_I kan_I kag_I (hl.1.trans hml.symm) hnt hlocks d0_in_9 d0_in_12 d0_in_13 d0_in_15 d0_in_18 (Nat.le_of_ble_eq_true rfl) (Nat.le_of_ble_eq_true rfl) (Nat.le_of_ble_eq_true rfl) (Nat.le_of_ble_eq_true rfl) (Nat.le_of_ble_eq_true rfl) (Nat.le_of_ble_eq_true rfl) (⟨rfl, kIx_neg (by decide) hc⟩)
  · skip
    have f1 := hc
    refine lv_iload_n hx hb d0_in_4 rfl (lv_at hl 1 rfl) ?_
    refine lv_iconst (v := nI 4) hx hb d0_in_5 (by decide) ?_
    refine lv_icmp_le (tgt := 19) hx hb d0_in_6 (by decide) (fun hc => ?_) (fun hc => ?_)
    · skip
      obtain ⟨st, hs5, rfl⟩ := kIx_le (n := 4) (by decide) f1 hc
      refine lv_iconst (v := nI 0) hx hb d0_in_19 (by decide) ?_
      refine lv_istore_n hx hb d0_in_20 rfl hl (by decide) rfl (fun ls hl => ?_)
      have hl : lv_has ls 4 [(3, .int (nI 0)), (0, .ref h), (1, .int (nI st)), (2, .int cy)] := hl
      refine L0_in l D cI cZ cG h ad u P n hst st hs5 cy hx hb hml hown hB hK hA hE hZ (fun ls H locs i hj hl hI => ?_) (fun ls H locs i hj hl hI => ?_) n ls s.heap [] 0 (Nat.zero_add _) rfl (lv_sub hl [0, 1, 2, 3] rfl) hI
      · skip
        refine lv_iload_n hx hb d0_in_51 rfl (lv_at hl 0 rfl) ?_
        exact kret_xi (x := u) (wf := kwC h ad cI cZ cG) (Nat.le_of_ble_eq_true rfl) (Nat.le_of_ble_eq_true rfl) hx hb hr hlocks hK hI (⟨⟨st, hs5, rfl, hj.symm⟩, rfl⟩) d0_in_52
      · skip
        refine lv_iconst (v := -1) hx hb d0_in_59 (by decide) ?_
        exact kret_xi (x := u) (wf := kwC h ad cI cZ cG) (Nat.le_of_ble_eq_true rfl) (Nat.le_of_ble_eq_true rfl) hx hb hr hlocks hK hI (⟨⟨st, hs5, rfl, hj.symm⟩, rfl⟩) d0_in_60
    · skip
      exact kthr (cls := kIAE) (is := 76) (ik := 69) (u := u) (wf := kwC h ad cI cZ cG) (List.mem_of_getElem? (i := 5) rfl) hx hb hl0 hB hown hK hI hE hZ (by decide +kernel) kw_67 kw_6 kat_I kan_I kag_I (hl.1.trans hml.symm) hnt hlocks d0_in_9 d0_in_12 d0_in_13 d0_in_15 d0_in_18 (Nat.le_of_ble_eq_true rfl) (Nat.le_of_ble_eq_true rfl) (Nat.le_of_ble_eq_true rfl) (Nat.le_of_ble_eq_true rfl) (Nat.le_of_ble_eq_true rfl) (Nat.le_of_ble_eq_true rfl) (⟨rfl, kIx_gt (n := 4) (by decide) hc⟩)
set_option maxHeartbeats 4000000 in
set_option maxRecDepth 100000 in
theorem C0_count (l : Launch) (hl0 : l.stackTraces = false) (D : va_G) (cI cZ cG : ClassId) (h : Nat) (ad : Nat → Nat) (sz : Nat) (u : kU) (P : Nat → kIns) (n : Nat) (hst : kSt P n u) (vw : Int32) : kXi l D (kty cI cZ cG) y0_count (.code y0_count c0_count 2 (some .int)) ({ frames := 7, cells := 2, slots := 12, locals := 120 }) [.ref h, .int vw] (kwC h ad cI cZ cG) u sz (fun v x => (∃ j, j < 4 ∧ vw = nI j ∧ v = nI (mt_cnt P n j)) ∧ x = u) (fun E => E = kIAE ∧ ¬ kIx vw 4) := by
  refine vx_ofW (cc := c0_count) (maxL := 2) (ret := (some .int)) (by decide) rfl ?_
  intro p e s m args below meth c s₁ B hml hnt hv
  obtain ⟨rfl, hsz, hP, hK, hD0, hE, hZ⟩ := hv
  have hx := B.exec
  have hb := B.bytes
  have hr := B.returns
  have hts := atoms_spec (ws := Cond.code y0_count c0_count 2 (some .int) :: kBIG) B.pre
  have hB : ∀ w ∈ kBIG, w.before _ s = true := fun w q => hts w (List.mem_cons_of_mem _ q)
  have hown : s.vm.findClass "StageClock" = some m.cls := findClass_of_methodNamed B.named
  have hlocks := B.notSynchronized
  subst hsz
  have hD := hD0.self (sz := s.heap.size)
  generalize hAe : va_A (kwC h ad cI cZ cG u) s.heap.size = A at hD hZ ⊢
  have hA : ∀ q : Nat, s.heap.size ≤ q → A q := fun q h => by rw [← hAe]; exact Or.inr h
  have hI : kI D A s.heap (kwC h ad cI cZ cG u) s.heap [] := ⟨hP, hD, va_S.rf⟩
  have hl := lv_entry ([.ref h, .int vw]) (n := 2) (Nat.le_of_ble_eq_true rfl)
  rw [lg_entry_eq]
  generalize (lg_sl ([.ref h, .int vw]) ++ List.replicate (2 - (lg_sl ([.ref h, .int vw])).length) Slot.unset).toArray = ls at hl ⊢
  have hl : lv_has ls 2 [(0, .ref h), (1, .int vw)] := hl
  have hin := hst.1
  have hn := hin.2.1
  have hlw := mt_lw_le (fun j hj => (hin.2.2 j hj).1)
  refine lv_iload_n hx hb d0_count_0 rfl (lv_at hl 1 rfl) ?_
  by_cases hj4 : kIx vw 4
  · obtain ⟨j, hj, rfl⟩ := hj4
    rcases (show j = 0 ∨ j = 1 ∨ j = 2 ∨ j = 3 by omega) with rfl | rfl | rfl | rfl
    · refine lv_tableIn (off := 31) (tgt := 32) hx hb d0_count_1 (by decide) (by decide) rfl (by decide) ?_
      refine lv_aload_n hx hb d0_count_32 rfl (lv_at hl 0 rfl) ?_
      refine kC_g9 hx hb hB hown hK hI d0_count_33 ?_
      rw [show u 15 0 = nI n from hin.1]
      exact kret_xi (x := u) (wf := kwC h ad cI cZ cG) (Nat.le_of_ble_eq_true rfl) (Nat.le_of_ble_eq_true rfl) hx hb hr hlocks hK hI (⟨⟨0, hj, rfl, rfl⟩, rfl⟩) d0_count_36
    · refine lv_tableIn (off := 36) (tgt := 37) hx hb d0_count_1 (by decide) (by decide) rfl (by decide) ?_
      refine lv_aload_n hx hb d0_count_37 rfl (lv_at hl 0 rfl) ?_
      refine kcall_i (n := 0) (u := u) (wf := kwC h ad cI cZ cG) (As := []) (b := h) (rest := []) hx hb hml hown hB hK hI hA hE hZ (C0_lastW l D cI cZ cG h ad s.heap.size u P n hst) (kgV kw_272 kw_274 ks0_lastW kw_1 kw_275) (by decide +kernel) ⟨Nat.le_of_ble_eq_true rfl, Nat.le_of_ble_eq_true rfl⟩ (va_recv (q0 := 0) (ci := 0) hK hI.1 rfl rfl) rfl hl.1 (Nat.le_of_ble_eq_true rfl) d0_count_38 ⟨Nat.le_of_ble_eq_true rfl, Nat.le_of_ble_eq_true rfl⟩ rfl (fun ra xa H locs hq hI => ?_)
      obtain ⟨hv, hxu⟩ := hq
      rw [hxu] at hI
      rw [hv]
      exact kret_xi (x := u) (wf := kwC h ad cI cZ cG) (Nat.le_of_ble_eq_true rfl) (Nat.le_of_ble_eq_true rfl) hx hb hr hlocks hK hI (⟨⟨1, hj, rfl, rfl⟩, rfl⟩) d0_count_41
    · refine lv_tableIn (off := 41) (tgt := 42) hx hb d0_count_1 (by decide) (by decide) rfl (by decide) ?_
      refine lv_aload_n hx hb d0_count_42 rfl (lv_at hl 0 rfl) ?_
      refine kcall_i (n := 0) (u := u) (wf := kwC h ad cI cZ cG) (As := []) (b := h) (rest := []) hx hb hml hown hB hK hI hA hE hZ (C0_lastW l D cI cZ cG h ad s.heap.size u P n hst) (kgV kw_272 kw_274 ks0_lastW kw_1 kw_275) (by decide +kernel) ⟨Nat.le_of_ble_eq_true rfl, Nat.le_of_ble_eq_true rfl⟩ (va_recv (q0 := 0) (ci := 0) hK hI.1 rfl rfl) rfl hl.1 (Nat.le_of_ble_eq_true rfl) d0_count_43 ⟨Nat.le_of_ble_eq_true rfl, Nat.le_of_ble_eq_true rfl⟩ rfl (fun ra xa H locs hq hI => ?_)
      obtain ⟨hv, hxu⟩ := hq
      rw [hxu] at hI
      rw [hv]
      refine lv_aload_n hx hb d0_count_46 rfl (lv_at hl 0 rfl) ?_
      refine kC_g9 hx hb hB hown hK hI d0_count_47 ?_
      rw [show u 15 0 = nI n from hin.1]
      refine k_isub (v := nI (mt_lw P n - n)) hx hb (pk_sub (mt_lw_ge P n)) d0_count_50 ?_
      exact kret_xi (x := u) (wf := kwC h ad cI cZ cG) (Nat.le_of_ble_eq_true rfl) (Nat.le_of_ble_eq_true rfl) hx hb hr hlocks hK hI (⟨⟨2, hj, rfl, rfl⟩, rfl⟩) d0_count_51
    · refine lv_tableIn (off := 51) (tgt := 52) hx hb d0_count_1 (by decide) (by decide) rfl (by decide) ?_
      refine lv_aload_n hx hb d0_count_52 rfl (lv_at hl 0 rfl) ?_
      refine kcall_i (n := 0) (u := u) (wf := kwC h ad cI cZ cG) (As := []) (b := h) (rest := []) hx hb hml hown hB hK hI hA hE hZ (C0_countWrong l D cI cZ cG h ad s.heap.size u P n hst) (kgV kw_276 kw_278 ks0_countWrong kw_1 kw_279) (by decide +kernel) ⟨Nat.le_of_ble_eq_true rfl, Nat.le_of_ble_eq_true rfl⟩ (va_recv (q0 := 0) (ci := 0) hK hI.1 rfl rfl) rfl hl.1 (Nat.le_of_ble_eq_true rfl) d0_count_53 ⟨Nat.le_of_ble_eq_true rfl, Nat.le_of_ble_eq_true rfl⟩ rfl (fun ra xa H locs hq hI => ?_)
      obtain ⟨hv, hxu⟩ := hq
      rw [hxu] at hI
      rw [hv]
      exact kret_xi (x := u) (wf := kwC h ad cI cZ cG) (Nat.le_of_ble_eq_true rfl) (Nat.le_of_ble_eq_true rfl) hx hb hr hlocks hK hI (⟨⟨3, hj, rfl, rfl⟩, rfl⟩) d0_count_56
  · refine lv_tableOut (tgt := 57) hx hb d0_count_1 (ksw_out (n := 3) (by decide) hj4) (by decide) ?_
    exact kthr (cls := kIAE) (is := 91) (ik := 69) (u := u) (wf := kwC h ad cI cZ cG) (List.mem_of_getElem? (i := 7) rfl) hx hb hl0 hB hown hK hI hE hZ (by decide +kernel) kw_67 kw_6 kat_I kan_I kag_I (hl.1.trans hml.symm) hnt hlocks d0_count_57 d0_count_60 d0_count_61 d0_count_63 d0_count_66 (Nat.le_of_ble_eq_true rfl) (Nat.le_of_ble_eq_true rfl) (Nat.le_of_ble_eq_true rfl) (Nat.le_of_ble_eq_true rfl) (Nat.le_of_ble_eq_true rfl) (Nat.le_of_ble_eq_true rfl) (⟨rfl, hj4⟩)
