set_option maxHeartbeats 4000000 in
set_option maxRecDepth 100000 in
theorem C0_requireFitting (l : Launch) (hl0 : l.stackTraces = false) (D : va_G) (cI cZ cG : ClassId) (h : Nat) (ad : Nat → Nat) (sz : Nat) (u : kU) (vt vg vl vw : Int32) : kXv l D (kty cI cZ cG) y0_requireFitting (.code y0_requireFitting c0_requireFitting 5 none) ({ frames := 6, cells := 1, slots := 6, locals := 90 }) [.ref h, .int vt, .int vg, .int vl, .int vw] (kwC h ad cI cZ cG) u sz (fun x => x = u ∧ kFit vt vg vl vw) (fun E => E = kIAE ∧ ¬ kFit vt vg vl vw) := by
  refine vx_ofW (cc := c0_requireFitting) (maxL := 5) (ret := none) (by decide) rfl ?_
  intro p e s m args below meth c s₁ B hml hnt hv
  obtain ⟨rfl, hsz, hP, hK, hD0, hE, hZ⟩ := hv
  have hx := B.exec
  have hb := B.bytes
  have hr := B.returns
  have hts := atoms_spec (ws := Cond.code y0_requireFitting c0_requireFitting 5 none :: kBIG) B.pre
  have hB : ∀ w ∈ kBIG, w.before _ s = true := fun w q => hts w (List.mem_cons_of_mem _ q)
  have hown : s.vm.findClass "StageClock" = some m.cls := findClass_of_methodNamed B.named
  have hlocks := B.notSynchronized
  subst hsz
  have hD := hD0.self (sz := s.heap.size)
  generalize hAe : va_A (kwC h ad cI cZ cG u) s.heap.size = A at hD hZ ⊢
  have hA : ∀ q : Nat, s.heap.size ≤ q → A q := fun q h => by rw [← hAe]; exact Or.inr h
  have hI : kI D A s.heap (kwC h ad cI cZ cG u) s.heap [] := ⟨hP, hD, va_S.rf⟩
  have hl := lv_entry ([.ref h, .int vt, .int vg, .int vl, .int vw]) (n := 5) (Nat.le_of_ble_eq_true rfl)
  rw [lg_entry_eq]
  generalize (lg_sl ([.ref h, .int vt, .int vg, .int vl, .int vw]) ++ List.replicate (5 - (lg_sl ([.ref h, .int vt, .int vg, .int vl, .int vw])).length) Slot.unset).toArray = ls at hl ⊢
  have hl : lv_has ls 5 [(0, .ref h), (1, .int vt), (2, .int vg), (3, .int vl), (4, .int vw)] := hl
  refine lv_iload_n hx hb d0_requireFitting_0 rfl (lv_at hl 1 rfl) ?_
  refine lv_iconst (v := nI 1) hx hb d0_requireFitting_1 (by decide) ?_
  refine lv_icmp_lt (tgt := 23) hx hb d0_requireFitting_2 (by decide) (fun hc => ?_) (fun hc => ?_)
  · skip
    exact kthr (cls := kIAE) (is := 93) (ik := 69) (u := u) (wf := kwC h ad cI cZ cG) (List.mem_of_getElem? (i := 0) rfl) hx hb hl0 hB hown hK hI hE hZ (by decide +kernel) kw_67 kw_6 kat_I kan_I kag_I (hl.1.trans hml.symm) hnt hlocks d0_requireFitting_23 d0_requireFitting_26 d0_requireFitting_27 d0_requireFitting_29 d0_requireFitting_32 (Nat.le_of_ble_eq_true rfl) (Nat.le_of_ble_eq_true rfl) (Nat.le_of_ble_eq_true rfl) (Nat.le_of_ble_eq_true rfl) (Nat.le_of_ble_eq_true rfl) (Nat.le_of_ble_eq_true rfl) (⟨rfl, fun f => f.1 hc⟩)
  · skip
    have f1 := hc
    refine lv_iload_n hx hb d0_requireFitting_5 rfl (lv_at hl 1 rfl) ?_
    refine lv_bipush (v := nI 12) hx hb d0_requireFitting_6 (by decide) ?_
    refine lv_icmp_gt (tgt := 23) hx hb d0_requireFitting_8 (by decide) (fun hc => ?_) (fun hc => ?_)
    · skip
      exact kthr (cls := kIAE) (is := 93) (ik := 69) (u := u) (wf := kwC h ad cI cZ cG) (List.mem_of_getElem? (i := 0) rfl) hx hb hl0 hB hown hK hI hE hZ (by decide +kernel) kw_67 kw_6 kat_I kan_I kag_I (hl.1.trans hml.symm) hnt hlocks d0_requireFitting_23 d0_requireFitting_26 d0_requireFitting_27 d0_requireFitting_29 d0_requireFitting_32 (Nat.le_of_ble_eq_true rfl) (Nat.le_of_ble_eq_true rfl) (Nat.le_of_ble_eq_true rfl) (Nat.le_of_ble_eq_true rfl) (Nat.le_of_ble_eq_true rfl) (Nat.le_of_ble_eq_true rfl) (⟨rfl, fun f => f.2.1 hc⟩)
    · skip
      have f2 := hc
      refine lv_iload hx hb d0_requireFitting_11 (lv_at hl 4 rfl) ?_
      refine lv_if_lt (tgt := 23) hx hb d0_requireFitting_13 (by decide) (fun hc => ?_) (fun hc => ?_)
      · skip
        exact kthr (cls := kIAE) (is := 93) (ik := 69) (u := u) (wf := kwC h ad cI cZ cG) (List.mem_of_getElem? (i := 0) rfl) hx hb hl0 hB hown hK hI hE hZ (by decide +kernel) kw_67 kw_6 kat_I kan_I kag_I (hl.1.trans hml.symm) hnt hlocks d0_requireFitting_23 d0_requireFitting_26 d0_requireFitting_27 d0_requireFitting_29 d0_requireFitting_32 (Nat.le_of_ble_eq_true rfl) (Nat.le_of_ble_eq_true rfl) (Nat.le_of_ble_eq_true rfl) (Nat.le_of_ble_eq_true rfl) (Nat.le_of_ble_eq_true rfl) (Nat.le_of_ble_eq_true rfl) (⟨rfl, fun f => f.2.2.1 hc⟩)
      · skip
        have f3 := hc
        refine lv_iload hx hb d0_requireFitting_16 (lv_at hl 4 rfl) ?_
        refine lv_bipush (v := nI 8) hx hb d0_requireFitting_18 (by decide) ?_
        refine lv_icmp_le (tgt := 33) hx hb d0_requireFitting_20 (by decide) (fun hc => ?_) (fun hc => ?_)
        · skip
          have f4 := hc
          refine lv_iload_n hx hb d0_requireFitting_33 rfl (lv_at hl 2 rfl) ?_
          refine lv_if_lt (tgt := 53) hx hb d0_requireFitting_34 (by decide) (fun hc => ?_) (fun hc => ?_)
          · skip
            exact kthr (cls := kIAE) (is := 95) (ik := 69) (u := u) (wf := kwC h ad cI cZ cG) (List.mem_of_getElem? (i := 1) rfl) hx hb hl0 hB hown hK hI hE hZ (by decide +kernel) kw_67 kw_6 kat_I kan_I kag_I (hl.1.trans hml.symm) hnt hlocks d0_requireFitting_53 d0_requireFitting_56 d0_requireFitting_57 d0_requireFitting_59 d0_requireFitting_62 (Nat.le_of_ble_eq_true rfl) (Nat.le_of_ble_eq_true rfl) (Nat.le_of_ble_eq_true rfl) (Nat.le_of_ble_eq_true rfl) (Nat.le_of_ble_eq_true rfl) (Nat.le_of_ble_eq_true rfl) (⟨rfl, fun f => f.2.2.2.2.1 hc⟩)
          · skip
            have f5 := hc
            refine lv_iload_n hx hb d0_requireFitting_37 rfl (lv_at hl 2 rfl) ?_
            refine lv_bipush (v := nI 15) hx hb d0_requireFitting_38 (by decide) ?_
            refine lv_icmp_gt (tgt := 53) hx hb d0_requireFitting_40 (by decide) (fun hc => ?_) (fun hc => ?_)
            · skip
              exact kthr (cls := kIAE) (is := 95) (ik := 69) (u := u) (wf := kwC h ad cI cZ cG) (List.mem_of_getElem? (i := 1) rfl) hx hb hl0 hB hown hK hI hE hZ (by decide +kernel) kw_67 kw_6 kat_I kan_I kag_I (hl.1.trans hml.symm) hnt hlocks d0_requireFitting_53 d0_requireFitting_56 d0_requireFitting_57 d0_requireFitting_59 d0_requireFitting_62 (Nat.le_of_ble_eq_true rfl) (Nat.le_of_ble_eq_true rfl) (Nat.le_of_ble_eq_true rfl) (Nat.le_of_ble_eq_true rfl) (Nat.le_of_ble_eq_true rfl) (Nat.le_of_ble_eq_true rfl) (⟨rfl, fun f => f.2.2.2.2.2.1 hc⟩)
            · skip
              have f6 := hc
              refine lv_iload_n hx hb d0_requireFitting_43 rfl (lv_at hl 3 rfl) ?_
              refine lv_if_lt (tgt := 53) hx hb d0_requireFitting_44 (by decide) (fun hc => ?_) (fun hc => ?_)
              · skip
                exact kthr (cls := kIAE) (is := 95) (ik := 69) (u := u) (wf := kwC h ad cI cZ cG) (List.mem_of_getElem? (i := 1) rfl) hx hb hl0 hB hown hK hI hE hZ (by decide +kernel) kw_67 kw_6 kat_I kan_I kag_I (hl.1.trans hml.symm) hnt hlocks d0_requireFitting_53 d0_requireFitting_56 d0_requireFitting_57 d0_requireFitting_59 d0_requireFitting_62 (Nat.le_of_ble_eq_true rfl) (Nat.le_of_ble_eq_true rfl) (Nat.le_of_ble_eq_true rfl) (Nat.le_of_ble_eq_true rfl) (Nat.le_of_ble_eq_true rfl) (Nat.le_of_ble_eq_true rfl) (⟨rfl, fun f => f.2.2.2.2.2.2.1 hc⟩)
              · skip
                have f7 := hc
                refine lv_iload_n hx hb d0_requireFitting_47 rfl (lv_at hl 3 rfl) ?_
                refine lv_bipush (v := nI 15) hx hb d0_requireFitting_48 (by decide) ?_
                refine lv_icmp_le (tgt := 63) hx hb d0_requireFitting_50 (by decide) (fun hc => ?_) (fun hc => ?_)
                · skip
                  have f8 := hc
                  exact kret_xv (x := u) (wf := kwC h ad cI cZ cG) (Nat.le_of_ble_eq_true rfl) (Nat.le_of_ble_eq_true rfl) hx hb hr hlocks hK hI (⟨rfl, f1, f2, f3, f4, f5, f6, f7, f8⟩) d0_requireFitting_63
                · skip
                  exact kthr (cls := kIAE) (is := 95) (ik := 69) (u := u) (wf := kwC h ad cI cZ cG) (List.mem_of_getElem? (i := 1) rfl) hx hb hl0 hB hown hK hI hE hZ (by decide +kernel) kw_67 kw_6 kat_I kan_I kag_I (hl.1.trans hml.symm) hnt hlocks d0_requireFitting_53 d0_requireFitting_56 d0_requireFitting_57 d0_requireFitting_59 d0_requireFitting_62 (Nat.le_of_ble_eq_true rfl) (Nat.le_of_ble_eq_true rfl) (Nat.le_of_ble_eq_true rfl) (Nat.le_of_ble_eq_true rfl) (Nat.le_of_ble_eq_true rfl) (Nat.le_of_ble_eq_true rfl) (⟨rfl, fun f => hc f.2.2.2.2.2.2.2⟩)
        · skip
          exact kthr (cls := kIAE) (is := 93) (ik := 69) (u := u) (wf := kwC h ad cI cZ cG) (List.mem_of_getElem? (i := 0) rfl) hx hb hl0 hB hown hK hI hE hZ (by decide +kernel) kw_67 kw_6 kat_I kan_I kag_I (hl.1.trans hml.symm) hnt hlocks d0_requireFitting_23 d0_requireFitting_26 d0_requireFitting_27 d0_requireFitting_29 d0_requireFitting_32 (Nat.le_of_ble_eq_true rfl) (Nat.le_of_ble_eq_true rfl) (Nat.le_of_ble_eq_true rfl) (Nat.le_of_ble_eq_true rfl) (Nat.le_of_ble_eq_true rfl) (Nat.le_of_ble_eq_true rfl) (⟨rfl, fun f => hc f.2.2.2.1⟩)
set_option maxHeartbeats 4000000 in
set_option maxRecDepth 100000 in
theorem C0_requireInstruction (l : Launch) (hl0 : l.stackTraces = false) (D : va_G) (cI cZ cG : ClassId) (h : Nat) (ad : Nat → Nat) (sz : Nat) (u : kU) (vk : Int32) : kXv l D (kty cI cZ cG) y0_requireInstruction (.code y0_requireInstruction c0_requireInstruction 2 none) ({ frames := 6, cells := 1, slots := 6, locals := 90 }) [.ref h, .int vk] (kwC h ad cI cZ cG) u sz (fun x => x = u ∧ ¬ vk < 0 ∧ vk < u 15 0) (fun E => E = kIOB ∧ (vk < 0 ∨ ¬ vk < u 15 0)) := by
  refine vx_ofW (cc := c0_requireInstruction) (maxL := 2) (ret := none) (by decide) rfl ?_
  intro p e s m args below meth c s₁ B hml hnt hv
  obtain ⟨rfl, hsz, hP, hK, hD0, hE, hZ⟩ := hv
  have hx := B.exec
  have hb := B.bytes
  have hr := B.returns
  have hts := atoms_spec (ws := Cond.code y0_requireInstruction c0_requireInstruction 2 none :: kBIG) B.pre
  have hB : ∀ w ∈ kBIG, w.before _ s = true := fun w q => hts w (List.mem_cons_of_mem _ q)
  have hown : s.vm.findClass "StageClock" = some m.cls := findClass_of_methodNamed B.named
  have hlocks := B.notSynchronized
  subst hsz
  have hD := hD0.self (sz := s.heap.size)
  generalize hAe : va_A (kwC h ad cI cZ cG u) s.heap.size = A at hD hZ ⊢
  have hA : ∀ q : Nat, s.heap.size ≤ q → A q := fun q h => by rw [← hAe]; exact Or.inr h
  have hI : kI D A s.heap (kwC h ad cI cZ cG u) s.heap [] := ⟨hP, hD, va_S.rf⟩
  have hl := lv_entry ([.ref h, .int vk]) (n := 2) (Nat.le_of_ble_eq_true rfl)
  rw [lg_entry_eq]
  generalize (lg_sl ([.ref h, .int vk]) ++ List.replicate (2 - (lg_sl ([.ref h, .int vk])).length) Slot.unset).toArray = ls at hl ⊢
  have hl : lv_has ls 2 [(0, .ref h), (1, .int vk)] := hl
  refine lv_iload_n hx hb d0_requireInstruction_0 rfl (lv_at hl 1 rfl) ?_
  refine lv_if_lt (tgt := 12) hx hb d0_requireInstruction_1 (by decide) (fun hc => ?_) (fun hc => ?_)
  · skip
    exact kthr (cls := kIOB) (is := 99) (ik := 97) (u := u) (wf := kwC h ad cI cZ cG) (List.mem_of_getElem? (i := 8) rfl) hx hb hl0 hB hown hK hI hE hZ (by decide +kernel) kw_206 kw_10 kat_B kan_B kag_B (hl.1.trans hml.symm) hnt hlocks d0_requireInstruction_12 d0_requireInstruction_15 d0_requireInstruction_16 d0_requireInstruction_18 d0_requireInstruction_21 (Nat.le_of_ble_eq_true rfl) (Nat.le_of_ble_eq_true rfl) (Nat.le_of_ble_eq_true rfl) (Nat.le_of_ble_eq_true rfl) (Nat.le_of_ble_eq_true rfl) (Nat.le_of_ble_eq_true rfl) (⟨rfl, Or.inl hc⟩)
  · skip
    have f1 := hc
    refine lv_iload_n hx hb d0_requireInstruction_4 rfl (lv_at hl 1 rfl) ?_
    refine lv_aload_n hx hb d0_requireInstruction_5 rfl (lv_at hl 0 rfl) ?_
    refine kC_g9 hx hb hB hown hK hI d0_requireInstruction_6 ?_
    refine lv_icmp_lt (tgt := 22) hx hb d0_requireInstruction_9 (by decide) (fun hc => ?_) (fun hc => ?_)
    · skip
      exact kret_xv (x := u) (wf := kwC h ad cI cZ cG) (Nat.le_of_ble_eq_true rfl) (Nat.le_of_ble_eq_true rfl) hx hb hr hlocks hK hI (⟨rfl, f1, hc⟩) d0_requireInstruction_22
    · skip
      exact kthr (cls := kIOB) (is := 99) (ik := 97) (u := u) (wf := kwC h ad cI cZ cG) (List.mem_of_getElem? (i := 8) rfl) hx hb hl0 hB hown hK hI hE hZ (by decide +kernel) kw_206 kw_10 kat_B kan_B kag_B (hl.1.trans hml.symm) hnt hlocks d0_requireInstruction_12 d0_requireInstruction_15 d0_requireInstruction_16 d0_requireInstruction_18 d0_requireInstruction_21 (Nat.le_of_ble_eq_true rfl) (Nat.le_of_ble_eq_true rfl) (Nat.le_of_ble_eq_true rfl) (Nat.le_of_ble_eq_true rfl) (Nat.le_of_ble_eq_true rfl) (Nat.le_of_ble_eq_true rfl) (⟨rfl, Or.inr hc⟩)
set_option maxHeartbeats 4000000 in
set_option maxRecDepth 100000 in
theorem C0_setRegisters (l : Launch) (D : va_G) (cI cZ cG : ClassId) (h : Nat) (ad : Nat → Nat) (sz : Nat) (u : kU) (k : Nat) (hk : k < 200) (vg vr vl : Int32) : kMv l D (kty cI cZ cG) y0_setRegisters (.code y0_setRegisters c0_setRegisters 5 none) ({ frames := 0, cells := 0, slots := 0, locals := 0 }) [.ref h, .int (nI k), .int vg, .int vr, .int vl] (kwC h ad cI cZ cG) u sz (fun x => x = kset (kset (kset u 1 k vg) 2 k vr) 3 k vl) := by
  refine Met.ofW (cc := c0_setRegisters) (maxL := 5) (ret := none) (by decide) rfl ?_
  intro p e s m args below meth c s₁ B hml hv
  obtain ⟨rfl, hsz, hP, hK, hD0, hE, hZ⟩ := hv
  have hx := B.exec
  have hb := B.bytes
  have hr := B.returns
  have hts := atoms_spec (ws := Cond.code y0_setRegisters c0_setRegisters 5 none :: kBIG) B.pre
  have hB : ∀ w ∈ kBIG, w.before _ s = true := fun w q => hts w (List.mem_cons_of_mem _ q)
  have hown : s.vm.findClass "StageClock" = some m.cls := findClass_of_methodNamed B.named
  have hlocks := B.notSynchronized
  subst hsz
  have hD := hD0.self (sz := s.heap.size)
  generalize hAe : va_A (kwC h ad cI cZ cG u) s.heap.size = A at hD hZ ⊢
  have hA : ∀ q : Nat, s.heap.size ≤ q → A q := fun q h => by rw [← hAe]; exact Or.inr h
  have hI : kI D A s.heap (kwC h ad cI cZ cG u) s.heap [] := ⟨hP, hD, va_S.rf⟩
  have hl := lv_entry ([.ref h, .int (nI k), .int vg, .int vr, .int vl]) (n := 5) (Nat.le_of_ble_eq_true rfl)
  rw [lg_entry_eq]
  generalize (lg_sl ([.ref h, .int (nI k), .int vg, .int vr, .int vl]) ++ List.replicate (5 - (lg_sl ([.ref h, .int (nI k), .int vg, .int vr, .int vl])).length) Slot.unset).toArray = ls at hl ⊢
  have hl : lv_has ls 5 [(0, .ref h), (1, .int (nI k)), (2, .int vg), (3, .int vr), (4, .int vl)] := hl
  refine lv_aload_n hx hb d0_setRegisters_0 rfl (lv_at hl 0 rfl) ?_
  refine kC_g1 hx hb hB hown hK hI d0_setRegisters_1 ?_
  refine lv_iload_n hx hb d0_setRegisters_4 rfl (lv_at hl 1 rfl) ?_
  refine lv_iload_n hx hb d0_setRegisters_5 rfl (lv_at hl 2 rfl) ?_
  refine kC_s1 hx hb hK hI k (by omega) (rfl) d0_setRegisters_6 (fun H locs hI => ?_)
  refine lv_aload_n hx hb d0_setRegisters_7 rfl (lv_at hl 0 rfl) ?_
  refine kC_g2 hx hb hB hown hK hI d0_setRegisters_8 ?_
  refine lv_iload_n hx hb d0_setRegisters_11 rfl (lv_at hl 1 rfl) ?_
  refine lv_iload_n hx hb d0_setRegisters_12 rfl (lv_at hl 3 rfl) ?_
  refine kC_s2 hx hb hK hI k (by omega) (rfl) d0_setRegisters_13 (fun H locs hI => ?_)
  refine lv_aload_n hx hb d0_setRegisters_14 rfl (lv_at hl 0 rfl) ?_
  refine kC_g3 hx hb hB hown hK hI d0_setRegisters_15 ?_
  refine lv_iload_n hx hb d0_setRegisters_18 rfl (lv_at hl 1 rfl) ?_
  refine lv_iload hx hb d0_setRegisters_19 (lv_at hl 4 rfl) ?_
  refine kC_s3 hx hb hK hI k (by omega) (rfl) d0_setRegisters_21 (fun H locs hI => ?_)
  exact kret_v (x := kset (kset (kset u 1 k vg) 2 k vr) 3 k vl) (wf := kwC h ad cI cZ cG) hx hb hr hlocks hK hI (rfl) d0_setRegisters_22
set_option maxHeartbeats 4000000 in
set_option maxRecDepth 100000 in
theorem C0_setPace (l : Launch) (D : va_G) (cI cZ cG : ClassId) (h : Nat) (ad : Nat → Nat) (sz : Nat) (u : kU) (k : Nat) (hk : k < 200) (vt : Int32) (ld : Bool) (vw : Int32) (wr : Bool) : kMv l D (kty cI cZ cG) y0_setPace (.code y0_setPace c0_setPace 6 none) ({ frames := 0, cells := 0, slots := 0, locals := 0 }) [.ref h, .int (nI k), .int vt, .int (kb ld), .int vw, .int (kb wr)] (kwC h ad cI cZ cG) u sz (fun x => x = kset (kset (kset (kset u 0 k vt) 4 k (kb ld)) 5 k vw) 6 k (kb wr)) := by
  refine Met.ofW (cc := c0_setPace) (maxL := 6) (ret := none) (by decide) rfl ?_
  intro p e s m args below meth c s₁ B hml hv
  obtain ⟨rfl, hsz, hP, hK, hD0, hE, hZ⟩ := hv
  have hx := B.exec
  have hb := B.bytes
  have hr := B.returns
  have hts := atoms_spec (ws := Cond.code y0_setPace c0_setPace 6 none :: kBIG) B.pre
  have hB : ∀ w ∈ kBIG, w.before _ s = true := fun w q => hts w (List.mem_cons_of_mem _ q)
  have hown : s.vm.findClass "StageClock" = some m.cls := findClass_of_methodNamed B.named
  have hlocks := B.notSynchronized
  subst hsz
  have hD := hD0.self (sz := s.heap.size)
  generalize hAe : va_A (kwC h ad cI cZ cG u) s.heap.size = A at hD hZ ⊢
  have hA : ∀ q : Nat, s.heap.size ≤ q → A q := fun q h => by rw [← hAe]; exact Or.inr h
  have hI : kI D A s.heap (kwC h ad cI cZ cG u) s.heap [] := ⟨hP, hD, va_S.rf⟩
  have hl := lv_entry ([.ref h, .int (nI k), .int vt, .int (kb ld), .int vw, .int (kb wr)]) (n := 6) (Nat.le_of_ble_eq_true rfl)
  rw [lg_entry_eq]
  generalize (lg_sl ([.ref h, .int (nI k), .int vt, .int (kb ld), .int vw, .int (kb wr)]) ++ List.replicate (6 - (lg_sl ([.ref h, .int (nI k), .int vt, .int (kb ld), .int vw, .int (kb wr)])).length) Slot.unset).toArray = ls at hl ⊢
  have hl : lv_has ls 6 [(0, .ref h), (1, .int (nI k)), (2, .int vt), (3, .int (kb ld)), (4, .int vw), (5, .int (kb wr))] := hl
  refine lv_aload_n hx hb d0_setPace_0 rfl (lv_at hl 0 rfl) ?_
  refine kC_g0 hx hb hB hown hK hI d0_setPace_1 ?_
  refine lv_iload_n hx hb d0_setPace_4 rfl (lv_at hl 1 rfl) ?_
  refine lv_iload_n hx hb d0_setPace_5 rfl (lv_at hl 2 rfl) ?_
  refine kC_s0 hx hb hK hI k (by omega) (rfl) d0_setPace_6 (fun H locs hI => ?_)
  refine lv_aload_n hx hb d0_setPace_7 rfl (lv_at hl 0 rfl) ?_
  refine kC_g4 hx hb hB hown hK hI d0_setPace_8 ?_
  refine lv_iload_n hx hb d0_setPace_11 rfl (lv_at hl 1 rfl) ?_
  refine lv_iload_n hx hb d0_setPace_12 rfl (lv_at hl 3 rfl) ?_
  refine kC_s4 hx hb hK hI k (by omega) (rfl) (kb_nar _) d0_setPace_13 (fun H locs hI => ?_)
  refine lv_aload_n hx hb d0_setPace_14 rfl (lv_at hl 0 rfl) ?_
  refine kC_g5 hx hb hB hown hK hI d0_setPace_15 ?_
  refine lv_iload_n hx hb d0_setPace_18 rfl (lv_at hl 1 rfl) ?_
  refine lv_iload hx hb d0_setPace_19 (lv_at hl 4 rfl) ?_
  refine kC_s5 hx hb hK hI k (by omega) (rfl) d0_setPace_21 (fun H locs hI => ?_)
  refine lv_aload_n hx hb d0_setPace_22 rfl (lv_at hl 0 rfl) ?_
  refine kC_g6 hx hb hB hown hK hI d0_setPace_23 ?_
  refine lv_iload_n hx hb d0_setPace_26 rfl (lv_at hl 1 rfl) ?_
  refine lv_iload hx hb d0_setPace_27 (lv_at hl 5 rfl) ?_
  refine kC_s6 hx hb hK hI k (by omega) (rfl) (kb_nar _) d0_setPace_29 (fun H locs hI => ?_)
  exact kret_v (x := kset (kset (kset (kset u 0 k vt) 4 k (kb ld)) 5 k vw) 6 k (kb wr)) (wf := kwC h ad cI cZ cG) hx hb hr hlocks hK hI (rfl) d0_setPace_30
set_option maxHeartbeats 4000000 in
set_option maxRecDepth 100000 in
theorem C0_firstCycleInF (l : Launch) (D : va_G) (cI cZ cG : ClassId) (h : Nat) (ad : Nat → Nat) (sz : Nat) (u : kU) (P : Nat → kIns) (n : Nat) (hin : kIn P n u) (i : Nat) (hi : i < n) (ht : kTimes P i u) : kMi l D (kty cI cZ cG) y0_firstCycleInF (.code y0_firstCycleInF c0_firstCycleInF 2 (some .int)) ({ frames := 0, cells := 0, slots := 0, locals := 0 }) [.ref h, .int (nI i)] (kwC h ad cI cZ cG) u sz (fun r x => r = nI (mt_tm P i).1 ∧ x = u) := by
  refine Met.ofW (cc := c0_firstCycleInF) (maxL := 2) (ret := (some .int)) (by decide) rfl ?_
  intro p e s m args below meth c s₁ B hml hv
  obtain ⟨rfl, hsz, hP, hK, hD0, hE, hZ⟩ := hv
  have hx := B.exec
  have hb := B.bytes
  have hr := B.returns
  have hts := atoms_spec (ws := Cond.code y0_firstCycleInF c0_firstCycleInF 2 (some .int) :: kBIG) B.pre
  have hB : ∀ w ∈ kBIG, w.before _ s = true := fun w q => hts w (List.mem_cons_of_mem _ q)
  have hown : s.vm.findClass "StageClock" = some m.cls := findClass_of_methodNamed B.named
  have hlocks := B.notSynchronized
  subst hsz
  have hD := hD0.self (sz := s.heap.size)
  generalize hAe : va_A (kwC h ad cI cZ cG u) s.heap.size = A at hD hZ ⊢
  have hA : ∀ q : Nat, s.heap.size ≤ q → A q := fun q h => by rw [← hAe]; exact Or.inr h
  have hI : kI D A s.heap (kwC h ad cI cZ cG u) s.heap [] := ⟨hP, hD, va_S.rf⟩
  have hl := lv_entry ([.ref h, .int (nI i)]) (n := 2) (Nat.le_of_ble_eq_true rfl)
  rw [lg_entry_eq]
  generalize (lg_sl ([.ref h, .int (nI i)]) ++ List.replicate (2 - (lg_sl ([.ref h, .int (nI i)])).length) Slot.unset).toArray = ls at hl ⊢
  have hl : lv_has ls 2 [(0, .ref h), (1, .int (nI i))] := hl
  have hn := hin.2.1
  refine lv_iload_n hx hb d0_firstCycleInF_0 rfl (lv_at hl 1 rfl) ?_
  refine lv_if_ne (tgt := 6) hx hb d0_firstCycleInF_1 (by decide) (fun hc => ?_) (fun hc => ?_)
  · skip
    obtain ⟨a, rfl⟩ := knI_s hc
    refine lv_aload_n hx hb d0_firstCycleInF_6 rfl (lv_at hl 0 rfl) ?_
    refine kC_g6 hx hb hB hown hK hI d0_firstCycleInF_7 ?_
    refine lv_iload_n hx hb d0_firstCycleInF_10 rfl (lv_at hl 1 rfl) ?_
    refine lv_iconst (v := nI 1) hx hb d0_firstCycleInF_11 (by decide) ?_
    refine k_isub (v := nI a) hx hb (pk_sub (by omega)) d0_firstCycleInF_12 ?_
    refine kC_l6 (v := kb (mt_wr (P a))) hx hb hK hI a (by omega) (rfl) ((hin.2.2 a (by omega)).2.2.2.2.2.2.2) d0_firstCycleInF_13 ?_
    refine lv_if_eq (tgt := 32) hx hb d0_firstCycleInF_14 (by decide) (fun hc => ?_) (fun hc => ?_)
    · skip
      have hw := kb_0 hc
      refine lv_aload_n hx hb d0_firstCycleInF_32 rfl (lv_at hl 0 rfl) ?_
      refine kC_g7 hx hb hB hown hK hI d0_firstCycleInF_33 ?_
      refine lv_iconst (v := nI 1) hx hb d0_firstCycleInF_36 (by decide) ?_
      refine kC_row hx hb hK hI 1 (by decide) (rfl) d0_firstCycleInF_37 ?_
      refine lv_iload_n hx hb d0_firstCycleInF_38 rfl (lv_at hl 1 rfl) ?_
      refine lv_iconst (v := nI 1) hx hb d0_firstCycleInF_39 (by decide) ?_
      refine k_isub (v := nI a) hx hb (pk_sub (by omega)) d0_firstCycleInF_40 ?_
      refine kC_l9 (v := nI (mt_tm P a).2.1) hx hb hK hI a (by omega) (rfl) ((ht a (by omega)).2.1) d0_firstCycleInF_41 ?_
      exact kret_i (x := u) (wf := kwC h ad cI cZ cG) hx hb hr hlocks hK hI (⟨by rw [mt_F_f hw], rfl⟩) d0_firstCycleInF_42
    · skip
      have hw := kb_1 hc
      refine lv_aload_n hx hb d0_firstCycleInF_17 rfl (lv_at hl 0 rfl) ?_
      refine kC_g7 hx hb hB hown hK hI d0_firstCycleInF_18 ?_
      refine lv_iconst (v := nI 5) hx hb d0_firstCycleInF_21 (by decide) ?_
      refine kC_row hx hb hK hI 5 (by decide) (rfl) d0_firstCycleInF_22 ?_
      refine lv_iload_n hx hb d0_firstCycleInF_23 rfl (lv_at hl 1 rfl) ?_
      refine lv_iconst (v := nI 1) hx hb d0_firstCycleInF_24 (by decide) ?_
      refine k_isub (v := nI a) hx hb (pk_sub (by omega)) d0_firstCycleInF_25 ?_
      refine kC_l13 (v := nI (mt_xe P (mt_tm P) a)) hx hb hK hI a (by omega) (rfl) ((ht a (by omega)).2.2.2.2.2.1) d0_firstCycleInF_26 ?_
      refine lv_iconst (v := nI 1) hx hb d0_firstCycleInF_27 (by decide) ?_
      refine k_iadd (v := nI ((mt_xe P (mt_tm P) a) + 1)) hx hb (nI_add _ _) d0_firstCycleInF_28 ?_
      refine lv_goto (tgt := 42) hx hb d0_firstCycleInF_29 (by decide) ?_
      exact kret_i (x := u) (wf := kwC h ad cI cZ cG) hx hb hr hlocks hK hI (⟨by rw [mt_F_t hw], rfl⟩) d0_firstCycleInF_42
  · skip
    have e := knI_z (by omega) hc
    subst e
    refine lv_iconst (v := nI 1) hx hb d0_firstCycleInF_4 (by decide) ?_
    exact kret_i (x := u) (wf := kwC h ad cI cZ cG) hx hb hr hlocks hK hI (⟨by rw [mt_F_0], rfl⟩) d0_firstCycleInF_5
set_option maxHeartbeats 4000000 in
set_option maxRecDepth 100000 in
theorem C0_timeOfPrevious (l : Launch) (D : va_G) (cI cZ cG : ClassId) (h : Nat) (ad : Nat → Nat) (sz : Nat) (u : kU) (r i : Nat) (hr7 : r < 7) (hi : i < 200) : kMi l D (kty cI cZ cG) y0_timeOfPrevious (.code y0_timeOfPrevious c0_timeOfPrevious 3 (some .int)) ({ frames := 0, cells := 0, slots := 0, locals := 0 }) [.ref h, .int (nI r), .int (nI i)] (kwC h ad cI cZ cG) u sz (fun v x => v = kprev u r i ∧ x = u) := by
  refine Met.ofW (cc := c0_timeOfPrevious) (maxL := 3) (ret := (some .int)) (by decide) rfl ?_
  intro p e s m args below meth c s₁ B hml hv
  obtain ⟨rfl, hsz, hP, hK, hD0, hE, hZ⟩ := hv
  have hx := B.exec
  have hb := B.bytes
  have hr := B.returns
  have hts := atoms_spec (ws := Cond.code y0_timeOfPrevious c0_timeOfPrevious 3 (some .int) :: kBIG) B.pre
  have hB : ∀ w ∈ kBIG, w.before _ s = true := fun w q => hts w (List.mem_cons_of_mem _ q)
  have hown : s.vm.findClass "StageClock" = some m.cls := findClass_of_methodNamed B.named
  have hlocks := B.notSynchronized
  subst hsz
  have hD := hD0.self (sz := s.heap.size)
  generalize hAe : va_A (kwC h ad cI cZ cG u) s.heap.size = A at hD hZ ⊢
  have hA : ∀ q : Nat, s.heap.size ≤ q → A q := fun q h => by rw [← hAe]; exact Or.inr h
  have hI : kI D A s.heap (kwC h ad cI cZ cG u) s.heap [] := ⟨hP, hD, va_S.rf⟩
  have hl := lv_entry ([.ref h, .int (nI r), .int (nI i)]) (n := 3) (Nat.le_of_ble_eq_true rfl)
  rw [lg_entry_eq]
  generalize (lg_sl ([.ref h, .int (nI r), .int (nI i)]) ++ List.replicate (3 - (lg_sl ([.ref h, .int (nI r), .int (nI i)])).length) Slot.unset).toArray = ls at hl ⊢
  have hl : lv_has ls 3 [(0, .ref h), (1, .int (nI r)), (2, .int (nI i))] := hl
  refine lv_iload_n hx hb d0_timeOfPrevious_0 rfl (lv_at hl 2 rfl) ?_
  refine lv_if_ne (tgt := 8) hx hb d0_timeOfPrevious_1 (by decide) (fun hc => ?_) (fun hc => ?_)
  · skip
    obtain ⟨a, rfl⟩ := knI_s hc
    refine lv_aload_n hx hb d0_timeOfPrevious_8 rfl (lv_at hl 0 rfl) ?_
    refine kC_g7 hx hb hB hown hK hI d0_timeOfPrevious_9 ?_
    refine lv_iload_n hx hb d0_timeOfPrevious_12 rfl (lv_at hl 1 rfl) ?_
    refine kC_row hx hb hK hI r (hr7) (rfl) d0_timeOfPrevious_13 ?_
    refine lv_iload_n hx hb d0_timeOfPrevious_14 rfl (lv_at hl 2 rfl) ?_
    refine lv_iconst (v := nI 1) hx hb d0_timeOfPrevious_15 (by decide) ?_
    refine k_isub (v := nI a) hx hb (pk_sub (by omega)) d0_timeOfPrevious_16 ?_
    refine kC_lr (v := u (8 + r) a) hx hb hK hI r (hr7) a (by omega) (rfl) (rfl) d0_timeOfPrevious_17 ?_
    exact kret_i (x := u) (wf := kwC h ad cI cZ cG) hx hb hr hlocks hK hI (⟨rfl, rfl⟩) d0_timeOfPrevious_18
  · skip
    have e := knI_z (by omega) hc
    subst e
    refine lv_iconst (v := nI 0) hx hb d0_timeOfPrevious_4 (by decide) ?_
    refine lv_goto (tgt := 18) hx hb d0_timeOfPrevious_5 (by decide) ?_
    exact kret_i (x := u) (wf := kwC h ad cI cZ cG) hx hb hr hlocks hK hI (⟨rfl, rfl⟩) d0_timeOfPrevious_18
set_option maxHeartbeats 4000000 in
set_option maxRecDepth 100000 in
theorem C0_afterReady (l : Launch) (D : va_G) (cI cZ cG : ClassId) (h : Nat) (ad : Nat → Nat) (sz : Nat) (u : kU) (P : Nat → kIns) (n : Nat) (hin : kIn P n u) (i r : Nat) (hi : i ≤ n) (ht : kTimes P i u) (hla : kLat P i u) (hr15 : r ≤ 15) : kMi l D (kty cI cZ cG) y0_afterReady (.code y0_afterReady c0_afterReady 3 (some .int)) ({ frames := 0, cells := 0, slots := 0, locals := 0 }) [.ref h, .int (nI r)] (kwC h ad cI cZ cG) u sz (fun v x => v = nI (if r = 0 then 0 else mt_beh P (mt_tm P) i r) ∧ x = u) := by
  refine Met.ofW (cc := c0_afterReady) (maxL := 3) (ret := (some .int)) (by decide) rfl ?_
  intro p e s m args below meth c s₁ B hml hv
  obtain ⟨rfl, hsz, hP, hK, hD0, hE, hZ⟩ := hv
  have hx := B.exec
  have hb := B.bytes
  have hr := B.returns
  have hts := atoms_spec (ws := Cond.code y0_afterReady c0_afterReady 3 (some .int) :: kBIG) B.pre
  have hB : ∀ w ∈ kBIG, w.before _ s = true := fun w q => hts w (List.mem_cons_of_mem _ q)
  have hown : s.vm.findClass "StageClock" = some m.cls := findClass_of_methodNamed B.named
  have hlocks := B.notSynchronized
  subst hsz
  have hD := hD0.self (sz := s.heap.size)
  generalize hAe : va_A (kwC h ad cI cZ cG u) s.heap.size = A at hD hZ ⊢
  have hA : ∀ q : Nat, s.heap.size ≤ q → A q := fun q h => by rw [← hAe]; exact Or.inr h
  have hI : kI D A s.heap (kwC h ad cI cZ cG u) s.heap [] := ⟨hP, hD, va_S.rf⟩
  have hl := lv_entry ([.ref h, .int (nI r)]) (n := 3) (Nat.le_of_ble_eq_true rfl)
  rw [lg_entry_eq]
  generalize (lg_sl ([.ref h, .int (nI r)]) ++ List.replicate (3 - (lg_sl ([.ref h, .int (nI r)])).length) Slot.unset).toArray = ls at hl ⊢
  have hl : lv_has ls 3 [(0, .ref h), (1, .int (nI r))] := hl
  have hn := hin.2.1
  obtain ⟨o, ho, hbe, hlo⟩ := kLat_get hla hr15
  rw [hbe]
  cases o with
  | none =>
    refine lv_aload_n hx hb d0_afterReady_0 rfl (lv_at hl 0 rfl) ?_
    refine kC_g8 hx hb hB hown hK hI d0_afterReady_1 ?_
    refine lv_iload_n hx hb d0_afterReady_4 rfl (lv_at hl 1 rfl) ?_
    refine kC_l7 (v := -1) hx hb hK hI r (by omega) (rfl) (ho) d0_afterReady_5 ?_
    refine lv_istore_n hx hb d0_afterReady_6 rfl hl (by decide) rfl (fun ls hl => ?_)
    have hl : lv_has ls 3 [(2, .int (-1)), (0, .ref h), (1, .int (nI r))] := hl
    refine lv_iload_n hx hb d0_afterReady_7 rfl (lv_at hl 0 rfl) ?_
    refine lv_iconst (v := -1) hx hb d0_afterReady_8 (by decide) ?_
    refine lv_icmp_ne (tgt := 14) hx hb d0_afterReady_9 (by decide) (fun hc => ?_) (fun hc => ?_)
    · exact absurd rfl hc
    · skip
      refine lv_iconst (v := nI 0) hx hb d0_afterReady_12 (by decide) ?_
      exact kret_i (x := u) (wf := kwC h ad cI cZ cG) hx hb hr hlocks hK hI (⟨rfl, rfl⟩) d0_afterReady_13
  | some j =>
    have hj := hlo j rfl
    refine lv_aload_n hx hb d0_afterReady_0 rfl (lv_at hl 0 rfl) ?_
    refine kC_g8 hx hb hB hown hK hI d0_afterReady_1 ?_
    refine lv_iload_n hx hb d0_afterReady_4 rfl (lv_at hl 1 rfl) ?_
    refine kC_l7 (v := nI j) hx hb hK hI r (by omega) (rfl) (ho) d0_afterReady_5 ?_
    refine lv_istore_n hx hb d0_afterReady_6 rfl hl (by decide) rfl (fun ls hl => ?_)
    have hl : lv_has ls 3 [(2, .int (nI j)), (0, .ref h), (1, .int (nI r))] := hl
    refine lv_iload_n hx hb d0_afterReady_7 rfl (lv_at hl 0 rfl) ?_
    refine lv_iconst (v := -1) hx hb d0_afterReady_8 (by decide) ?_
    refine lv_icmp_ne (tgt := 14) hx hb d0_afterReady_9 (by decide) (fun hc => ?_) (fun hc => ?_)
    · skip
      refine lv_aload_n hx hb d0_afterReady_14 rfl (lv_at hl 1 rfl) ?_
      refine kC_g4 hx hb hB hown hK hI d0_afterReady_15 ?_
      refine lv_iload_n hx hb d0_afterReady_18 rfl (lv_at hl 0 rfl) ?_
      refine kC_l4 (v := kb (mt_ld (P j))) hx hb hK hI j (by omega) (rfl) ((hin.2.2 j (by omega)).2.2.2.2.2.1) d0_afterReady_19 ?_
      refine lv_if_eq (tgt := 35) hx hb d0_afterReady_20 (by decide) (fun hc => ?_) (fun hc => ?_)
      · skip
        have hw := kb_0 hc
        refine lv_aload_n hx hb d0_afterReady_35 rfl (lv_at hl 1 rfl) ?_
        refine kC_g7 hx hb hB hown hK hI d0_afterReady_36 ?_
        refine lv_iconst (v := nI 5) hx hb d0_afterReady_39 (by decide) ?_
        refine kC_row hx hb hK hI 5 (by decide) (rfl) d0_afterReady_40 ?_
        refine lv_iload_n hx hb d0_afterReady_41 rfl (lv_at hl 0 rfl) ?_
        refine kC_l13 (v := nI (mt_xe P (mt_tm P) j)) hx hb hK hI j (by omega) (rfl) ((ht j hj).2.2.2.2.2.1) d0_afterReady_42 ?_
        refine lv_iconst (v := nI 1) hx hb d0_afterReady_43 (by decide) ?_
        refine k_iadd (v := nI ((mt_xe P (mt_tm P) j) + 1)) hx hb (nI_add _ _) d0_afterReady_44 ?_
        exact kret_i (x := u) (wf := kwC h ad cI cZ cG) hx hb hr hlocks hK hI (⟨by simp only [mt_beo]; rw [if_neg (by rw [hw]; decide)], rfl⟩) d0_afterReady_45
      · skip
        have hw := kb_1 hc
        refine lv_aload_n hx hb d0_afterReady_23 rfl (lv_at hl 1 rfl) ?_
        refine kC_g7 hx hb hB hown hK hI d0_afterReady_24 ?_
        refine lv_bipush (v := nI 6) hx hb d0_afterReady_27 (by decide) ?_
        refine kC_row hx hb hK hI 6 (by decide) (rfl) d0_afterReady_29 ?_
        refine lv_iload_n hx hb d0_afterReady_30 rfl (lv_at hl 0 rfl) ?_
        refine kC_l14 (v := nI (mt_me P (mt_tm P) j)) hx hb hK hI j (by omega) (rfl) ((ht j hj).2.2.2.2.2.2) d0_afterReady_31 ?_
        refine lv_goto (tgt := 43) hx hb d0_afterReady_32 (by decide) ?_
        refine lv_iconst (v := nI 1) hx hb d0_afterReady_43 (by decide) ?_
        refine k_iadd (v := nI ((mt_me P (mt_tm P) j) + 1)) hx hb (nI_add _ _) d0_afterReady_44 ?_
        exact kret_i (x := u) (wf := kwC h ad cI cZ cG) hx hb hr hlocks hK hI (⟨by simp only [mt_beo]; rw [if_pos hw], rfl⟩) d0_afterReady_45
    · exact absurd hc (knI_m1 (by omega))
set_option maxHeartbeats 4000000 in
set_option maxRecDepth 100000 in
theorem C0_noteGiver (l : Launch) (D : va_G) (cI cZ cG : ClassId) (h : Nat) (ad : Nat → Nat) (sz : Nat) (u : kU) (P : Nat → kIns) (n : Nat) (hin : kIn P n u) (i : Nat) (hi : i < n) (hla : kLat P i u) : kMv l D (kty cI cZ cG) y0_noteGiver (.code y0_noteGiver c0_noteGiver 2 none) ({ frames := 0, cells := 0, slots := 0, locals := 0 }) [.ref h, .int (nI i)] (kwC h ad cI cZ cG) u sz (fun x => kLat P (i + 1) x ∧ ∀ j, j ≠ 7 → x j = u j) := by
  refine Met.ofW (cc := c0_noteGiver) (maxL := 2) (ret := none) (by decide) rfl ?_
  intro p e s m args below meth c s₁ B hml hv
  obtain ⟨rfl, hsz, hP, hK, hD0, hE, hZ⟩ := hv
  have hx := B.exec
  have hb := B.bytes
  have hr := B.returns
  have hts := atoms_spec (ws := Cond.code y0_noteGiver c0_noteGiver 2 none :: kBIG) B.pre
  have hB : ∀ w ∈ kBIG, w.before _ s = true := fun w q => hts w (List.mem_cons_of_mem _ q)
  have hown : s.vm.findClass "StageClock" = some m.cls := findClass_of_methodNamed B.named
  have hlocks := B.notSynchronized
  subst hsz
  have hD := hD0.self (sz := s.heap.size)
  generalize hAe : va_A (kwC h ad cI cZ cG u) s.heap.size = A at hD hZ ⊢
  have hA : ∀ q : Nat, s.heap.size ≤ q → A q := fun q h => by rw [← hAe]; exact Or.inr h
  have hI : kI D A s.heap (kwC h ad cI cZ cG u) s.heap [] := ⟨hP, hD, va_S.rf⟩
  have hl := lv_entry ([.ref h, .int (nI i)]) (n := 2) (Nat.le_of_ble_eq_true rfl)
  rw [lg_entry_eq]
  generalize (lg_sl ([.ref h, .int (nI i)]) ++ List.replicate (2 - (lg_sl ([.ref h, .int (nI i)])).length) Slot.unset).toArray = ls at hl ⊢
  have hl : lv_has ls 2 [(0, .ref h), (1, .int (nI i))] := hl
  have hn := hin.2.1
  have hg15 := (hin.2.2 i hi).1.2.2.1
  refine lv_aload_n hx hb d0_noteGiver_0 rfl (lv_at hl 0 rfl) ?_
  refine kC_g1 hx hb hB hown hK hI d0_noteGiver_1 ?_
  refine lv_iload_n hx hb d0_noteGiver_4 rfl (lv_at hl 1 rfl) ?_
  refine kC_l1 (v := nI (mt_g (P i))) hx hb hK hI i (by omega) (rfl) ((hin.2.2 i hi).2.2.1) d0_noteGiver_5 ?_
  refine lv_if_eq (tgt := 21) hx hb d0_noteGiver_6 (by decide) (fun hc => ?_) (fun hc => ?_)
  · skip
    have hg := knI_z (by omega) hc
    exact kret_v (x := u) (wf := kwC h ad cI cZ cG) hx hb hr hlocks hK hI (⟨kLat_same hla hg, fun _ _ => rfl⟩) d0_noteGiver_21
  · skip
    have hg : mt_g (P i) ≠ 0 := fun e => hc (by rw [e]; exact nI_0)
    refine lv_aload_n hx hb d0_noteGiver_9 rfl (lv_at hl 0 rfl) ?_
    refine kC_g8 hx hb hB hown hK hI d0_noteGiver_10 ?_
    refine lv_aload_n hx hb d0_noteGiver_13 rfl (lv_at hl 0 rfl) ?_
    refine kC_g1 hx hb hB hown hK hI d0_noteGiver_14 ?_
    refine lv_iload_n hx hb d0_noteGiver_17 rfl (lv_at hl 1 rfl) ?_
    refine kC_l1 (v := nI (mt_g (P i))) hx hb hK hI i (by omega) (rfl) ((hin.2.2 i hi).2.2.1) d0_noteGiver_18 ?_
    refine lv_iload_n hx hb d0_noteGiver_19 rfl (lv_at hl 1 rfl) ?_
    refine kC_s7 hx hb hK hI (mt_g (P i)) (by omega) (rfl) d0_noteGiver_20 (fun H locs hI => ?_)
    exact kret_v (x := kset u 7 (mt_g (P i)) (nI i)) (wf := kwC h ad cI cZ cG) hx hb hr hlocks hK hI (⟨kLat_put hla hg (by omega), fun j hj => va_up_ne _ _ hj⟩) d0_noteGiver_21
