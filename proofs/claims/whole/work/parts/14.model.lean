set_option maxHeartbeats 4000000 in
set_option maxRecDepth 100000 in
theorem C1_thrown (l : Launch) (D : va_G) (cI cZ cG : ClassId) (h : Nat) (ad : Nat → Nat) (sz : Nat) (u : kU)  : kMi l D (kty cI cZ cG) y1_thrown (.code y1_thrown c1_thrown 1 (some .int)) ({ frames := 0, cells := 0, slots := 0, locals := 0 }) [.ref h] (kwM h ad cI cZ) u sz (fun r x => r = u 12 0 ∧ x = u) := by
  refine Met.ofW (cc := c1_thrown) (maxL := 1) (ret := (some .int)) (by decide) rfl ?_
  intro p e s m args below meth c s₁ B hml hv
  obtain ⟨rfl, hsz, hP, hK, hD0, hE, hZ⟩ := hv
  have hx := B.exec
  have hb := B.bytes
  have hr := B.returns
  have hts := atoms_spec (ws := Cond.code y1_thrown c1_thrown 1 (some .int) :: kBIG) B.pre
  have hB : ∀ w ∈ kBIG, w.before _ s = true := fun w q => hts w (List.mem_cons_of_mem _ q)
  have hown : s.vm.findClass "StageClockModel" = some m.cls := findClass_of_methodNamed B.named
  have hlocks := B.notSynchronized
  subst hsz
  have hD := hD0.self (sz := s.heap.size)
  generalize hAe : va_A (kwM h ad cI cZ u) s.heap.size = A at hD hZ ⊢
  have hA : ∀ q : Nat, s.heap.size ≤ q → A q := fun q h => by rw [← hAe]; exact Or.inr h
  have hI : kI D A s.heap (kwM h ad cI cZ u) s.heap [] := ⟨hP, hD, va_S.rf⟩
  have hl := lv_entry ([.ref h]) (n := 1) (Nat.le_of_ble_eq_true rfl)
  rw [lg_entry_eq]
  generalize (lg_sl ([.ref h]) ++ List.replicate (1 - (lg_sl ([.ref h])).length) Slot.unset).toArray = ls at hl ⊢
  have hl : lv_has ls 1 [(0, .ref h)] := hl
  refine lv_aload_n hx hb d1_thrown_0 rfl (lv_at hl 0 rfl) ?_
  refine kM_g0 hx hb hB hown hK hI d1_thrown_1 ?_
  exact kret_i (x := u) (wf := kwM h ad cI cZ) hx hb hr hlocks hK hI (⟨rfl, rfl⟩) d1_thrown_4
set_option maxHeartbeats 4000000 in
set_option maxRecDepth 100000 in
theorem C1_fails (l : Launch) (D : va_G) (cI cZ cG : ClassId) (h : Nat) (ad : Nat → Nat) (sz : Nat) (u : kU) (b : Bool) (vy : Int32) : kMi l D (kty cI cZ cG) y1_fails (.code y1_fails c1_fails 3 (some .boolean)) ({ frames := 0, cells := 0, slots := 0, locals := 0 }) [.ref h, .int (kb b), .int vy] (kwM h ad cI cZ) u sz (fun r x => r = kb b ∧ x = knum u 12 (if b = true then vy else nI 0)) := by
  refine Met.ofW (cc := c1_fails) (maxL := 3) (ret := (some .boolean)) (by decide) rfl ?_
  intro p e s m args below meth c s₁ B hml hv
  obtain ⟨rfl, hsz, hP, hK, hD0, hE, hZ⟩ := hv
  have hx := B.exec
  have hb := B.bytes
  have hr := B.returns
  have hts := atoms_spec (ws := Cond.code y1_fails c1_fails 3 (some .boolean) :: kBIG) B.pre
  have hB : ∀ w ∈ kBIG, w.before _ s = true := fun w q => hts w (List.mem_cons_of_mem _ q)
  have hown : s.vm.findClass "StageClockModel" = some m.cls := findClass_of_methodNamed B.named
  have hlocks := B.notSynchronized
  subst hsz
  have hD := hD0.self (sz := s.heap.size)
  generalize hAe : va_A (kwM h ad cI cZ u) s.heap.size = A at hD hZ ⊢
  have hA : ∀ q : Nat, s.heap.size ≤ q → A q := fun q h => by rw [← hAe]; exact Or.inr h
  have hI : kI D A s.heap (kwM h ad cI cZ u) s.heap [] := ⟨hP, hD, va_S.rf⟩
  have hl := lv_entry ([.ref h, .int (kb b), .int vy]) (n := 3) (Nat.le_of_ble_eq_true rfl)
  rw [lg_entry_eq]
  generalize (lg_sl ([.ref h, .int (kb b), .int vy]) ++ List.replicate (3 - (lg_sl ([.ref h, .int (kb b), .int vy])).length) Slot.unset).toArray = ls at hl ⊢
  have hl : lv_has ls 3 [(0, .ref h), (1, .int (kb b)), (2, .int vy)] := hl
  refine lv_aload_n hx hb d1_fails_0 rfl (lv_at hl 0 rfl) ?_
  refine lv_iload_n hx hb d1_fails_1 rfl (lv_at hl 1 rfl) ?_
  refine lv_if_eq (tgt := 9) hx hb d1_fails_2 (by decide) (fun hc => ?_) (fun hc => ?_)
  · skip
    have hw := kb_0 hc
    refine lv_iconst (v := nI 0) hx hb d1_fails_9 (by decide) ?_
    refine kM_p0 hx hb hB hown hK hI d1_fails_10 (fun H locs hI => ?_)
    refine lv_iload_n hx hb d1_fails_13 rfl (lv_at hl 1 rfl) ?_
    exact kret_z (x := knum u 12 (nI 0)) (wf := kwM h ad cI cZ) hx hb hr hlocks hK hI (kb_narrow b) (⟨rfl, by rw [hw]; rfl⟩) d1_fails_14
  · skip
    have hw := kb_1 hc
    refine lv_iload_n hx hb d1_fails_5 rfl (lv_at hl 2 rfl) ?_
    refine lv_goto (tgt := 10) hx hb d1_fails_6 (by decide) ?_
    refine kM_p0 hx hb hB hown hK hI d1_fails_10 (fun H locs hI => ?_)
    refine lv_iload_n hx hb d1_fails_13 rfl (lv_at hl 1 rfl) ?_
    exact kret_z (x := knum u 12 vy) (wf := kwM h ad cI cZ) hx hb hr hlocks hK hI (kb_narrow b) (⟨rfl, by rw [hw]; rfl⟩) d1_fails_14
set_option maxHeartbeats 4000000 in
set_option maxRecDepth 100000 in
theorem C1_bad (l : Launch) (D : va_G) (cI cZ cG : ClassId) (h : Nat) (ad : Nat → Nat) (sz : Nat) (u : kU) (vt vg vl vw : Int32) : kMi l D (kty cI cZ cG) y1_bad (.code y1_bad c1_bad 4 (some .boolean)) ({ frames := 0, cells := 0, slots := 0, locals := 0 }) [.int vt, .int vg, .int vl, .int vw] (kwM h ad cI cZ) u sz (fun r x => ∃ b : Bool, r = kb b ∧ (b = true ↔ ¬ kFit vt vg vl vw) ∧ x = u) := by
  refine Met.ofW (cc := c1_bad) (maxL := 4) (ret := (some .boolean)) (by decide) rfl ?_
  intro p e s m args below meth c s₁ B hml hv
  obtain ⟨rfl, hsz, hP, hK, hD0, hE, hZ⟩ := hv
  have hx := B.exec
  have hb := B.bytes
  have hr := B.returns
  have hts := atoms_spec (ws := Cond.code y1_bad c1_bad 4 (some .boolean) :: kBIG) B.pre
  have hB : ∀ w ∈ kBIG, w.before _ s = true := fun w q => hts w (List.mem_cons_of_mem _ q)
  have hown : s.vm.findClass "StageClockModel" = some m.cls := findClass_of_methodNamed B.named
  have hlocks := B.notSynchronized
  subst hsz
  have hD := hD0.self (sz := s.heap.size)
  generalize hAe : va_A (kwM h ad cI cZ u) s.heap.size = A at hD hZ ⊢
  have hA : ∀ q : Nat, s.heap.size ≤ q → A q := fun q h => by rw [← hAe]; exact Or.inr h
  have hI : kI D A s.heap (kwM h ad cI cZ u) s.heap [] := ⟨hP, hD, va_S.rf⟩
  have hl := lv_entry ([.int vt, .int vg, .int vl, .int vw]) (n := 4) (Nat.le_of_ble_eq_true rfl)
  rw [lg_entry_eq]
  generalize (lg_sl ([.int vt, .int vg, .int vl, .int vw]) ++ List.replicate (4 - (lg_sl ([.int vt, .int vg, .int vl, .int vw])).length) Slot.unset).toArray = ls at hl ⊢
  have hl : lv_has ls 4 [(0, .int vt), (1, .int vg), (2, .int vl), (3, .int vw)] := hl
  refine lv_iload_n hx hb d1_bad_0 rfl (lv_at hl 0 rfl) ?_
  refine lv_iconst (v := nI 1) hx hb d1_bad_1 (by decide) ?_
  refine lv_icmp_lt (tgt := 41) hx hb d1_bad_2 (by decide) (fun hc => ?_) (fun hc => ?_)
  · skip
    refine lv_iconst (v := kb true) hx hb d1_bad_41 (by decide) ?_
    refine lv_goto (tgt := 46) hx hb d1_bad_42 (by decide) ?_
    exact kret_z (x := u) (wf := kwM h ad cI cZ) hx hb hr hlocks hK hI (rfl) (⟨true, rfl, ⟨fun _ f => f.1 hc, fun _ => rfl⟩, rfl⟩) d1_bad_46
  · skip
    have f1 := hc
    refine lv_iload_n hx hb d1_bad_5 rfl (lv_at hl 0 rfl) ?_
    refine lv_bipush (v := nI 12) hx hb d1_bad_6 (by decide) ?_
    refine lv_icmp_gt (tgt := 41) hx hb d1_bad_8 (by decide) (fun hc => ?_) (fun hc => ?_)
    · skip
      refine lv_iconst (v := kb true) hx hb d1_bad_41 (by decide) ?_
      refine lv_goto (tgt := 46) hx hb d1_bad_42 (by decide) ?_
      exact kret_z (x := u) (wf := kwM h ad cI cZ) hx hb hr hlocks hK hI (rfl) (⟨true, rfl, ⟨fun _ f => f.2.1 hc, fun _ => rfl⟩, rfl⟩) d1_bad_46
    · skip
      have f2 := hc
      refine lv_iload_n hx hb d1_bad_11 rfl (lv_at hl 1 rfl) ?_
      refine lv_if_lt (tgt := 41) hx hb d1_bad_12 (by decide) (fun hc => ?_) (fun hc => ?_)
      · skip
        refine lv_iconst (v := kb true) hx hb d1_bad_41 (by decide) ?_
        refine lv_goto (tgt := 46) hx hb d1_bad_42 (by decide) ?_
        exact kret_z (x := u) (wf := kwM h ad cI cZ) hx hb hr hlocks hK hI (rfl) (⟨true, rfl, ⟨fun _ f => f.2.2.2.2.1 hc, fun _ => rfl⟩, rfl⟩) d1_bad_46
      · skip
        have f3 := hc
        refine lv_iload_n hx hb d1_bad_15 rfl (lv_at hl 1 rfl) ?_
        refine lv_bipush (v := nI 15) hx hb d1_bad_16 (by decide) ?_
        refine lv_icmp_gt (tgt := 41) hx hb d1_bad_18 (by decide) (fun hc => ?_) (fun hc => ?_)
        · skip
          refine lv_iconst (v := kb true) hx hb d1_bad_41 (by decide) ?_
          refine lv_goto (tgt := 46) hx hb d1_bad_42 (by decide) ?_
          exact kret_z (x := u) (wf := kwM h ad cI cZ) hx hb hr hlocks hK hI (rfl) (⟨true, rfl, ⟨fun _ f => f.2.2.2.2.2.1 hc, fun _ => rfl⟩, rfl⟩) d1_bad_46
        · skip
          have f4 := hc
          refine lv_iload_n hx hb d1_bad_21 rfl (lv_at hl 2 rfl) ?_
          refine lv_if_lt (tgt := 41) hx hb d1_bad_22 (by decide) (fun hc => ?_) (fun hc => ?_)
          · skip
            refine lv_iconst (v := kb true) hx hb d1_bad_41 (by decide) ?_
            refine lv_goto (tgt := 46) hx hb d1_bad_42 (by decide) ?_
            exact kret_z (x := u) (wf := kwM h ad cI cZ) hx hb hr hlocks hK hI (rfl) (⟨true, rfl, ⟨fun _ f => f.2.2.2.2.2.2.1 hc, fun _ => rfl⟩, rfl⟩) d1_bad_46
          · skip
            have f5 := hc
            refine lv_iload_n hx hb d1_bad_25 rfl (lv_at hl 2 rfl) ?_
            refine lv_bipush (v := nI 15) hx hb d1_bad_26 (by decide) ?_
            refine lv_icmp_gt (tgt := 41) hx hb d1_bad_28 (by decide) (fun hc => ?_) (fun hc => ?_)
            · skip
              refine lv_iconst (v := kb true) hx hb d1_bad_41 (by decide) ?_
              refine lv_goto (tgt := 46) hx hb d1_bad_42 (by decide) ?_
              exact kret_z (x := u) (wf := kwM h ad cI cZ) hx hb hr hlocks hK hI (rfl) (⟨true, rfl, ⟨fun _ f => (Int32.not_le.mpr hc) f.2.2.2.2.2.2.2, fun _ => rfl⟩, rfl⟩) d1_bad_46
            · skip
              have f6 := hc
              refine lv_iload_n hx hb d1_bad_31 rfl (lv_at hl 3 rfl) ?_
              refine lv_if_lt (tgt := 41) hx hb d1_bad_32 (by decide) (fun hc => ?_) (fun hc => ?_)
              · skip
                refine lv_iconst (v := kb true) hx hb d1_bad_41 (by decide) ?_
                refine lv_goto (tgt := 46) hx hb d1_bad_42 (by decide) ?_
                exact kret_z (x := u) (wf := kwM h ad cI cZ) hx hb hr hlocks hK hI (rfl) (⟨true, rfl, ⟨fun _ f => f.2.2.1 hc, fun _ => rfl⟩, rfl⟩) d1_bad_46
              · skip
                have f7 := hc
                refine lv_iload_n hx hb d1_bad_35 rfl (lv_at hl 3 rfl) ?_
                refine lv_bipush (v := nI 8) hx hb d1_bad_36 (by decide) ?_
                refine lv_icmp_le (tgt := 45) hx hb d1_bad_38 (by decide) (fun hc => ?_) (fun hc => ?_)
                · skip
                  have f8 := hc
                  refine lv_iconst (v := kb false) hx hb d1_bad_45 (by decide) ?_
                  exact kret_z (x := u) (wf := kwM h ad cI cZ) hx hb hr hlocks hK hI (rfl) (⟨false, rfl, ⟨fun q => (Bool.noConfusion q), fun q => absurd ⟨f1, f2, f7, f8, f3, f4, f5, Int32.not_lt.mp f6⟩ q⟩, rfl⟩) d1_bad_46
                · skip
                  refine lv_iconst (v := kb true) hx hb d1_bad_41 (by decide) ?_
                  refine lv_goto (tgt := 46) hx hb d1_bad_42 (by decide) ?_
                  exact kret_z (x := u) (wf := kwM h ad cI cZ) hx hb hr hlocks hK hI (rfl) (⟨true, rfl, ⟨fun _ f => hc f.2.2.2.1, fun _ => rfl⟩, rfl⟩) d1_bad_46
set_option maxHeartbeats 4000000 in
set_option maxRecDepth 100000 in
theorem C1_more (l : Launch) (D : va_G) (cI cZ cG : ClassId) (h : Nat) (ad : Nat → Nat) (sz : Nat) (u : kU) (a b : Nat) (ha : a < 2 ^ 31) (hb2 : b < 2 ^ 31) : kMi l D (kty cI cZ cG) y1_more (.code y1_more c1_more 2 (some .int)) ({ frames := 0, cells := 0, slots := 0, locals := 0 }) [.int (nI a), .int (nI b)] (kwM h ad cI cZ) u sz (fun r x => r = nI (max a b) ∧ x = u) := by
  refine Met.ofW (cc := c1_more) (maxL := 2) (ret := (some .int)) (by decide) rfl ?_
  intro p e s m args below meth c s₁ B hml hv
  obtain ⟨rfl, hsz, hP, hK, hD0, hE, hZ⟩ := hv
  have hx := B.exec
  have hb := B.bytes
  have hr := B.returns
  have hts := atoms_spec (ws := Cond.code y1_more c1_more 2 (some .int) :: kBIG) B.pre
  have hB : ∀ w ∈ kBIG, w.before _ s = true := fun w q => hts w (List.mem_cons_of_mem _ q)
  have hown : s.vm.findClass "StageClockModel" = some m.cls := findClass_of_methodNamed B.named
  have hlocks := B.notSynchronized
  subst hsz
  have hD := hD0.self (sz := s.heap.size)
  generalize hAe : va_A (kwM h ad cI cZ u) s.heap.size = A at hD hZ ⊢
  have hA : ∀ q : Nat, s.heap.size ≤ q → A q := fun q h => by rw [← hAe]; exact Or.inr h
  have hI : kI D A s.heap (kwM h ad cI cZ u) s.heap [] := ⟨hP, hD, va_S.rf⟩
  have hl := lv_entry ([.int (nI a), .int (nI b)]) (n := 2) (Nat.le_of_ble_eq_true rfl)
  rw [lg_entry_eq]
  generalize (lg_sl ([.int (nI a), .int (nI b)]) ++ List.replicate (2 - (lg_sl ([.int (nI a), .int (nI b)])).length) Slot.unset).toArray = ls at hl ⊢
  have hl : lv_has ls 2 [(0, .int (nI a)), (1, .int (nI b))] := hl
  refine lv_iload_n hx hb d1_more_0 rfl (lv_at hl 0 rfl) ?_
  refine lv_iload_n hx hb d1_more_1 rfl (lv_at hl 1 rfl) ?_
  refine lv_icmp_le (tgt := 9) hx hb d1_more_2 (by decide) (fun hc => ?_) (fun hc => ?_)
  · skip
    have hab := (nI_leI ha hb2).mp hc
    refine lv_iload_n hx hb d1_more_9 rfl (lv_at hl 1 rfl) ?_
    exact kret_i (x := u) (wf := kwM h ad cI cZ) hx hb hr hlocks hK hI (⟨by rw [show max a b = b by omega], rfl⟩) d1_more_10
  · skip
    have hab : ¬ a ≤ b := fun q => hc ((nI_leI ha hb2).mpr q)
    refine lv_iload_n hx hb d1_more_5 rfl (lv_at hl 0 rfl) ?_
    refine lv_goto (tgt := 10) hx hb d1_more_6 (by decide) ?_
    exact kret_i (x := u) (wf := kwM h ad cI cZ) hx hb hr hlocks hK hI (⟨by rw [show max a b = a by omega], rfl⟩) d1_more_10
set_option maxHeartbeats 4000000 in
set_option maxRecDepth 100000 in
theorem C1_xe (l : Launch) (D : va_G) (cI cZ cG : ClassId) (h : Nat) (ad : Nat → Nat) (sz : Nat) (u : kU) (i a t : Nat) (hi : i < 200) (h1 : u 9 i = nI a) (h2 : u 0 i = nI t) (ht : 1 ≤ t) : kMi l D (kty cI cZ cG) y1_xe (.code y1_xe c1_xe 2 (some .int)) ({ frames := 0, cells := 0, slots := 0, locals := 0 }) [.ref h, .int (nI i)] (kwM h ad cI cZ) u sz (fun r x => r = nI (a + t - 1) ∧ x = u) := by
  refine Met.ofW (cc := c1_xe) (maxL := 2) (ret := (some .int)) (by decide) rfl ?_
  intro p e s m args below meth c s₁ B hml hv
  obtain ⟨rfl, hsz, hP, hK, hD0, hE, hZ⟩ := hv
  have hx := B.exec
  have hb := B.bytes
  have hr := B.returns
  have hts := atoms_spec (ws := Cond.code y1_xe c1_xe 2 (some .int) :: kBIG) B.pre
  have hB : ∀ w ∈ kBIG, w.before _ s = true := fun w q => hts w (List.mem_cons_of_mem _ q)
  have hown : s.vm.findClass "StageClockModel" = some m.cls := findClass_of_methodNamed B.named
  have hlocks := B.notSynchronized
  subst hsz
  have hD := hD0.self (sz := s.heap.size)
  generalize hAe : va_A (kwM h ad cI cZ u) s.heap.size = A at hD hZ ⊢
  have hA : ∀ q : Nat, s.heap.size ≤ q → A q := fun q h => by rw [← hAe]; exact Or.inr h
  have hI : kI D A s.heap (kwM h ad cI cZ u) s.heap [] := ⟨hP, hD, va_S.rf⟩
  have hl := lv_entry ([.ref h, .int (nI i)]) (n := 2) (Nat.le_of_ble_eq_true rfl)
  rw [lg_entry_eq]
  generalize (lg_sl ([.ref h, .int (nI i)]) ++ List.replicate (2 - (lg_sl ([.ref h, .int (nI i)])).length) Slot.unset).toArray = ls at hl ⊢
  have hl : lv_has ls 2 [(0, .ref h), (1, .int (nI i))] := hl
  refine lv_aload_n hx hb d1_xe_0 rfl (lv_at hl 0 rfl) ?_
  refine kM_g10 hx hb hB hown hK hI d1_xe_1 ?_
  refine lv_iload_n hx hb d1_xe_4 rfl (lv_at hl 1 rfl) ?_
  refine kM_l9 (v := nI a) hx hb hK hI i (by omega) (rfl) (h1) d1_xe_5 ?_
  refine lv_aload_n hx hb d1_xe_6 rfl (lv_at hl 0 rfl) ?_
  refine kM_g1 hx hb hB hown hK hI d1_xe_7 ?_
  refine lv_iload_n hx hb d1_xe_10 rfl (lv_at hl 1 rfl) ?_
  refine kM_l0 (v := nI t) hx hb hK hI i (by omega) (rfl) (h2) d1_xe_11 ?_
  refine k_iadd (v := nI (a + t)) hx hb (nI_add _ _) d1_xe_12 ?_
  refine lv_iconst (v := nI 1) hx hb d1_xe_13 (by decide) ?_
  refine k_isub (v := nI (a + t - 1)) hx hb (pk_sub (by omega)) d1_xe_14 ?_
  exact kret_i (x := u) (wf := kwM h ad cI cZ) hx hb hr hlocks hK hI (⟨rfl, rfl⟩) d1_xe_15
set_option maxHeartbeats 4000000 in
set_option maxRecDepth 100000 in
theorem C1_me (l : Launch) (D : va_G) (cI cZ cG : ClassId) (h : Nat) (ad : Nat → Nat) (sz : Nat) (u : kU) (i a t : Nat) (hi : i < 200) (h1 : u 10 i = nI a) (h2 : u 4 i = nI t) : kMi l D (kty cI cZ cG) y1_me (.code y1_me c1_me 2 (some .int)) ({ frames := 0, cells := 0, slots := 0, locals := 0 }) [.ref h, .int (nI i)] (kwM h ad cI cZ) u sz (fun r x => r = nI (a + t) ∧ x = u) := by
  refine Met.ofW (cc := c1_me) (maxL := 2) (ret := (some .int)) (by decide) rfl ?_
  intro p e s m args below meth c s₁ B hml hv
  obtain ⟨rfl, hsz, hP, hK, hD0, hE, hZ⟩ := hv
  have hx := B.exec
  have hb := B.bytes
  have hr := B.returns
  have hts := atoms_spec (ws := Cond.code y1_me c1_me 2 (some .int) :: kBIG) B.pre
  have hB : ∀ w ∈ kBIG, w.before _ s = true := fun w q => hts w (List.mem_cons_of_mem _ q)
  have hown : s.vm.findClass "StageClockModel" = some m.cls := findClass_of_methodNamed B.named
  have hlocks := B.notSynchronized
  subst hsz
  have hD := hD0.self (sz := s.heap.size)
  generalize hAe : va_A (kwM h ad cI cZ u) s.heap.size = A at hD hZ ⊢
  have hA : ∀ q : Nat, s.heap.size ≤ q → A q := fun q h => by rw [← hAe]; exact Or.inr h
  have hI : kI D A s.heap (kwM h ad cI cZ u) s.heap [] := ⟨hP, hD, va_S.rf⟩
  have hl := lv_entry ([.ref h, .int (nI i)]) (n := 2) (Nat.le_of_ble_eq_true rfl)
  rw [lg_entry_eq]
  generalize (lg_sl ([.ref h, .int (nI i)]) ++ List.replicate (2 - (lg_sl ([.ref h, .int (nI i)])).length) Slot.unset).toArray = ls at hl ⊢
  have hl : lv_has ls 2 [(0, .ref h), (1, .int (nI i))] := hl
  refine lv_aload_n hx hb d1_me_0 rfl (lv_at hl 0 rfl) ?_
  refine kM_g11 hx hb hB hown hK hI d1_me_1 ?_
  refine lv_iload_n hx hb d1_me_4 rfl (lv_at hl 1 rfl) ?_
  refine kM_l10 (v := nI a) hx hb hK hI i (by omega) (rfl) (h1) d1_me_5 ?_
  refine lv_aload_n hx hb d1_me_6 rfl (lv_at hl 0 rfl) ?_
  refine kM_g5 hx hb hB hown hK hI d1_me_7 ?_
  refine lv_iload_n hx hb d1_me_10 rfl (lv_at hl 1 rfl) ?_
  refine kM_l4 (v := nI t) hx hb hK hI i (by omega) (rfl) (h2) d1_me_11 ?_
  refine k_iadd (v := nI (a + t)) hx hb (nI_add _ _) d1_me_12 ?_
  exact kret_i (x := u) (wf := kwM h ad cI cZ) hx hb hr hlocks hK hI (⟨rfl, rfl⟩) d1_me_13
set_option maxHeartbeats 4000000 in
set_option maxRecDepth 100000 in
theorem L1_before {p : Program} {e : Env} {s : State} {m : MethodId} {args : Array Value} {below : List Frame} {meth : Method} {c : Code} {Q : State → Prop} {A : Nat → Prop} (l : Launch) (D : va_G) (cI cZ cG : ClassId) (h : Nat) (ad : Nat → Nat) (u : kU) (P : Nat → kIns) (n : Nat) (hin : mIn P n u) (k r : Nat) (hk : k ≤ n) (hr : r ≤ 15) (hx : p.tables.exec = Jvm.exec) (hb : c.code = c1_before) (hml : c.maxLocals = 4) (hown : s.vm.findClass "StageClockModel" = some m.cls) (hB : ∀ w ∈ kBIG, w.before args s = true) (hK : va_K D kcl (kty cI cZ cG) s) (hA : ∀ q : Nat, s.heap.size ≤ q → A q) (hE : kE s) (hZ : kZ A s s.heap)
    (kk : ∀ (ls : Array Slot) (H : Heap) (locs : List Loc), lv_has ls 4 [(3, .int (kenc (mt_last P r k))), (0, .ref h), (1, .int (nI k)), (2, .int (nI r))] → kI D A s.heap (kwM h ad cI cZ u) H locs → W p l e ({ frames := 0, cells := 0, slots := 0, locals := 0 } : Room) s m args below meth c H locs 0 0 Q (F0 m 24 ls []))
    : ∀ (d : Nat) (ls : Array Slot) (H : Heap) (locs : List Loc) (hd : d ≤ k) (hm : mt_last P r k = mt_last P r d), lv_has ls 4 [(3, .int (nI d - nI 1)), (0, .ref h), (1, .int (nI k)), (2, .int (nI r))] → kI D A s.heap (kwM h ad cI cZ u) H locs → W p l e ({ frames := 0, cells := 0, slots := 0, locals := 0 } : Room) s m args below meth c H locs 0 0 Q (F0 m 4 ls []) := by
  have hn := hin.2.1
  intro d
  induction d with
  | zero =>
    intro ls H locs hd hm hl hI
    refine lv_iload_n hx hb d1_before_4 rfl (lv_at hl 0 rfl) ?_
    refine lv_if_lt (tgt := 24) hx hb d1_before_5 (by decide) (fun hc => ?_) (fun hc => ?_)
    · skip
      exact kk ls H locs (by rw [hm]; exact hl) hI
    · exact absurd (by decide) hc
  | succ d ih =>
    intro ls H locs hd hm hl hI
    have e3 : nI (d + 1) - nI 1 = nI d := pk_sub (by omega)
    rw [e3] at hl
    have hg := (hin.2.2 d (by omega)).1.2.2.1
    refine lv_iload_n hx hb d1_before_4 rfl (lv_at hl 0 rfl) ?_
    refine lv_if_lt (tgt := 24) hx hb d1_before_5 (by decide) (fun hc => ?_) (fun hc => ?_)
    · exact absurd hc (nI_pos (by omega))
    · skip
      refine lv_aload_n hx hb d1_before_8 rfl (lv_at hl 1 rfl) ?_
      refine kM_g2 hx hb hB hown hK hI d1_before_9 ?_
      refine lv_iload_n hx hb d1_before_12 rfl (lv_at hl 0 rfl) ?_
      refine kM_l1 (v := nI (mt_g (P d))) hx hb hK hI d (by omega) (rfl) ((hin.2.2 d (by omega)).2.2.1) d1_before_13 ?_
      refine lv_iload_n hx hb d1_before_14 rfl (lv_at hl 3 rfl) ?_
      refine lv_icmp_eq (tgt := 24) hx hb d1_before_15 (by decide) (fun hc => ?_) (fun hc => ?_)
      · skip
        have he : mt_g (P d) = r := (nI_eq (by omega) (by omega)).mp hc
        exact kk ls H locs (by rw [hm.trans (if_pos he)]; exact hl) hI
      · skip
        have hne : mt_g (P d) ≠ r := fun q => hc (by rw [q])
        refine lv_iinc (k := 0) (v := nI d - nI 1) hx hb d1_before_18 hl rfl (kdec d) (by decide) rfl (fun ls hl => ?_)
        have hl : lv_has ls 4 [(3, .int (nI d - nI 1)), (0, .ref h), (1, .int (nI k)), (2, .int (nI r))] := hl
        refine lv_goto (tgt := 4) hx hb d1_before_21 (by decide) ?_
        exact ih ls H locs (by omega) (hm.trans (if_neg hne)) (lv_sub hl [0, 1, 2, 3] rfl) hI
set_option maxHeartbeats 4000000 in
set_option maxRecDepth 100000 in
theorem C1_before (l : Launch) (D : va_G) (cI cZ cG : ClassId) (h : Nat) (ad : Nat → Nat) (sz : Nat) (u : kU) (P : Nat → kIns) (n : Nat) (hin : mIn P n u) (k r : Nat) (hk : k ≤ n) (hr15 : r ≤ 15) : kMi l D (kty cI cZ cG) y1_before (.code y1_before c1_before 4 (some .int)) ({ frames := 0, cells := 0, slots := 0, locals := 0 }) [.ref h, .int (nI k), .int (nI r)] (kwM h ad cI cZ) u sz (fun v x => v = kenc (mt_last P r k) ∧ x = u) := by
  refine Met.ofW (cc := c1_before) (maxL := 4) (ret := (some .int)) (by decide) rfl ?_
  intro p e s m args below meth c s₁ B hml hv
  obtain ⟨rfl, hsz, hP, hK, hD0, hE, hZ⟩ := hv
  have hx := B.exec
  have hb := B.bytes
  have hr := B.returns
  have hts := atoms_spec (ws := Cond.code y1_before c1_before 4 (some .int) :: kBIG) B.pre
  have hB : ∀ w ∈ kBIG, w.before _ s = true := fun w q => hts w (List.mem_cons_of_mem _ q)
  have hown : s.vm.findClass "StageClockModel" = some m.cls := findClass_of_methodNamed B.named
  have hlocks := B.notSynchronized
  subst hsz
  have hD := hD0.self (sz := s.heap.size)
  generalize hAe : va_A (kwM h ad cI cZ u) s.heap.size = A at hD hZ ⊢
  have hA : ∀ q : Nat, s.heap.size ≤ q → A q := fun q h => by rw [← hAe]; exact Or.inr h
  have hI : kI D A s.heap (kwM h ad cI cZ u) s.heap [] := ⟨hP, hD, va_S.rf⟩
  have hl := lv_entry ([.ref h, .int (nI k), .int (nI r)]) (n := 4) (Nat.le_of_ble_eq_true rfl)
  rw [lg_entry_eq]
  generalize (lg_sl ([.ref h, .int (nI k), .int (nI r)]) ++ List.replicate (4 - (lg_sl ([.ref h, .int (nI k), .int (nI r)])).length) Slot.unset).toArray = ls at hl ⊢
  have hl : lv_has ls 4 [(0, .ref h), (1, .int (nI k)), (2, .int (nI r))] := hl
  refine lv_iload_n hx hb d1_before_0 rfl (lv_at hl 1 rfl) ?_
  refine lv_iconst (v := nI 1) hx hb d1_before_1 (by decide) ?_
  refine k_isub (v := nI k - nI 1) hx hb (rfl) d1_before_2 ?_
  refine lv_istore_n hx hb d1_before_3 rfl hl (by decide) rfl (fun ls hl => ?_)
  have hl : lv_has ls 4 [(3, .int (nI k - nI 1)), (0, .ref h), (1, .int (nI k)), (2, .int (nI r))] := hl
  refine L1_before l D cI cZ cG h ad u P n hin k r hk hr15 hx hb hml hown hB hK hA hE hZ (fun ls H locs hl hI => ?_) k ls s.heap [] (Nat.le_refl _) rfl (lv_sub hl [0, 1, 2, 3] rfl) hI
  refine lv_iload_n hx hb d1_before_24 rfl (lv_at hl 0 rfl) ?_
  exact kret_i (x := u) (wf := kwM h ad cI cZ) hx hb hr hlocks hK hI (⟨rfl, rfl⟩) d1_before_25
set_option maxHeartbeats 4000000 in
set_option maxRecDepth 100000 in
theorem C1_behind (l : Launch) (D : va_G) (cI cZ cG : ClassId) (h : Nat) (ad : Nat → Nat) (sz : Nat) (u : kU) (P : Nat → kIns) (n : Nat) (hin : mIn P n u) (i r : Nat) (hi : i < n) (hr15 : r ≤ 15) (hrw : ∀ j, j < i → mRow P j u) : kMi l D (kty cI cZ cG) y1_behind (.code y1_behind c1_behind 4 (some .int)) ({ frames := 1, cells := 0, slots := 0, locals := 30 }) [.ref h, .int (nI i), .int (nI r)] (kwM h ad cI cZ) u sz (fun v x => v = nI (mt_beh P (mt_tm P) i r) ∧ x = u) := by
  refine Met.ofW (cc := c1_behind) (maxL := 4) (ret := (some .int)) (by decide) rfl ?_
  intro p e s m args below meth c s₁ B hml hv
  obtain ⟨rfl, hsz, hP, hK, hD0, hE, hZ⟩ := hv
  have hx := B.exec
  have hb := B.bytes
  have hr := B.returns
  have hts := atoms_spec (ws := Cond.code y1_behind c1_behind 4 (some .int) :: kBIG) B.pre
  have hB : ∀ w ∈ kBIG, w.before _ s = true := fun w q => hts w (List.mem_cons_of_mem _ q)
  have hown : s.vm.findClass "StageClockModel" = some m.cls := findClass_of_methodNamed B.named
  have hlocks := B.notSynchronized
  subst hsz
  have hD := hD0.self (sz := s.heap.size)
  generalize hAe : va_A (kwM h ad cI cZ u) s.heap.size = A at hD hZ ⊢
  have hA : ∀ q : Nat, s.heap.size ≤ q → A q := fun q h => by rw [← hAe]; exact Or.inr h
  have hI : kI D A s.heap (kwM h ad cI cZ u) s.heap [] := ⟨hP, hD, va_S.rf⟩
  have hl := lv_entry ([.ref h, .int (nI i), .int (nI r)]) (n := 4) (Nat.le_of_ble_eq_true rfl)
  rw [lg_entry_eq]
  generalize (lg_sl ([.ref h, .int (nI i), .int (nI r)]) ++ List.replicate (4 - (lg_sl ([.ref h, .int (nI i), .int (nI r)])).length) Slot.unset).toArray = ls at hl ⊢
  have hl : lv_has ls 4 [(0, .ref h), (1, .int (nI i)), (2, .int (nI r))] := hl
  have hn := hin.2.1
  refine lv_aload_n hx hb d1_behind_0 rfl (lv_at hl 0 rfl) ?_
  refine lv_iload_n hx hb d1_behind_1 rfl (lv_at hl 1 rfl) ?_
  refine lv_iload_n hx hb d1_behind_2 rfl (lv_at hl 2 rfl) ?_
  refine kcall_i (n := 2) (u := u) (wf := kwM h ad cI cZ) (As := [.int (nI i), .int (nI r)]) (b := h) (rest := []) hx hb hml hown hB hK hI hA hE hZ (C1_before l D cI cZ cG h ad s.heap.size u P n hin i r (Nat.le_of_lt hi) hr15) (kgV kw_379 kw_381 ks1_before kw_2 kw_382) (by decide +kernel) ⟨Nat.le_of_ble_eq_true rfl, Nat.le_of_ble_eq_true rfl⟩ (va_recv (q0 := 0) (ci := 1) hK hI.1 rfl rfl) rfl hl.1 (Nat.le_of_ble_eq_true rfl) d1_behind_3 ⟨Nat.le_of_ble_eq_true rfl, Nat.le_of_ble_eq_true rfl⟩ rfl (fun ra xa H locs hq hI => ?_)
  obtain ⟨hv, hxu⟩ := hq
  rw [hxu] at hI
  rw [hv]
  unfold mt_beh
  cases ho : mt_last P r i with
  | none =>
    show W _ _ _ _ _ _ _ _ _ _ _ _ _ _ _ (F0 _ _ _ [.int (-1)])
    refine lv_istore_n hx hb d1_behind_6 rfl hl (by decide) rfl (fun ls hl => ?_)
    have hl : lv_has ls 4 [(3, .int (-1)), (0, .ref h), (1, .int (nI i)), (2, .int (nI r))] := hl
    refine lv_iload_n hx hb d1_behind_7 rfl (lv_at hl 0 rfl) ?_
    refine lv_if_ge (tgt := 15) hx hb d1_behind_8 (by decide) (fun hc => ?_) (fun hc => ?_)
    · exact absurd hc (by decide)
    · skip
      refine lv_iconst (v := nI 0) hx hb d1_behind_11 (by decide) ?_
      refine lv_goto (tgt := 39) hx hb d1_behind_12 (by decide) ?_
      exact kret_i (x := u) (wf := kwM h ad cI cZ) hx hb hr hlocks hK hI (⟨rfl, rfl⟩) d1_behind_39
  | some j =>
    have hj := (mt_last_lt ho).1
    have hmi := hin.2.2 j (by omega)
    have hrj := hrw j hj
    show W _ _ _ _ _ _ _ _ _ _ _ _ _ _ _ (F0 _ _ _ [.int (nI j)])
    refine lv_istore_n hx hb d1_behind_6 rfl hl (by decide) rfl (fun ls hl => ?_)
    have hl : lv_has ls 4 [(3, .int (nI j)), (0, .ref h), (1, .int (nI i)), (2, .int (nI r))] := hl
    refine lv_iload_n hx hb d1_behind_7 rfl (lv_at hl 0 rfl) ?_
    refine lv_if_ge (tgt := 15) hx hb d1_behind_8 (by decide) (fun hc => ?_) (fun hc => ?_)
    · skip
      refine lv_aload_n hx hb d1_behind_15 rfl (lv_at hl 1 rfl) ?_
      refine kM_g6 hx hb hB hown hK hI d1_behind_16 ?_
      refine lv_iload_n hx hb d1_behind_19 rfl (lv_at hl 0 rfl) ?_
      refine kM_l5 (v := kb (mt_ld (P j))) hx hb hK hI j (by omega) (rfl) (hmi.2.2.2.2.2.2.1) d1_behind_20 ?_
      refine lv_if_eq (tgt := 32) hx hb d1_behind_21 (by decide) (fun hc => ?_) (fun hc => ?_)
      · skip
        have hw := kb_0 hc
        refine lv_aload_n hx hb d1_behind_32 rfl (lv_at hl 1 rfl) ?_
        refine lv_iload_n hx hb d1_behind_33 rfl (lv_at hl 0 rfl) ?_
        refine kcall_i (n := 1) (u := u) (wf := kwM h ad cI cZ) (As := [.int (nI j)]) (b := h) (rest := []) hx hb hml hown hB hK hI hA hE hZ (C1_xe l D cI cZ cG h ad H.size u j _ _ (by omega) hrj.2.2.1 hmi.2.1 hmi.1.1) (kgV kw_368 kw_370 ks1_xe kw_2 kw_371) (by decide +kernel) ⟨Nat.le_of_ble_eq_true rfl, Nat.le_of_ble_eq_true rfl⟩ (va_recv (q0 := 0) (ci := 1) hK hI.1 rfl rfl) rfl hl.1 (Nat.le_of_ble_eq_true rfl) d1_behind_34 ⟨Nat.le_of_ble_eq_true rfl, Nat.le_of_ble_eq_true rfl⟩ rfl (fun ra xa H locs hq hI => ?_)
        obtain ⟨hv, hxu⟩ := hq
        rw [hxu] at hI
        rw [hv]
        refine lv_iconst (v := nI 1) hx hb d1_behind_37 (by decide) ?_
        refine k_iadd (v := nI (((mt_tm P j).2.2.1 + mt_t (P j) - 1) + 1)) hx hb (nI_add _ _) d1_behind_38 ?_
        exact kret_i (x := u) (wf := kwM h ad cI cZ) hx hb hr hlocks hK hI (⟨by simp only [mt_beo]; rw [if_neg (by rw [hw]; decide)]; rfl, rfl⟩) d1_behind_39
      · skip
        have hw := kb_1 hc
        refine lv_aload_n hx hb d1_behind_24 rfl (lv_at hl 1 rfl) ?_
        refine lv_iload_n hx hb d1_behind_25 rfl (lv_at hl 0 rfl) ?_
        refine kcall_i (n := 1) (u := u) (wf := kwM h ad cI cZ) (As := [.int (nI j)]) (b := h) (rest := []) hx hb hml hown hB hK hI hA hE hZ (C1_me l D cI cZ cG h ad H.size u j _ _ (by omega) hrj.2.2.2.1 hmi.2.2.2.2.2.1) (kgV kw_383 kw_385 ks1_me kw_2 kw_386) (by decide +kernel) ⟨Nat.le_of_ble_eq_true rfl, Nat.le_of_ble_eq_true rfl⟩ (va_recv (q0 := 0) (ci := 1) hK hI.1 rfl rfl) rfl hl.1 (Nat.le_of_ble_eq_true rfl) d1_behind_26 ⟨Nat.le_of_ble_eq_true rfl, Nat.le_of_ble_eq_true rfl⟩ rfl (fun ra xa H locs hq hI => ?_)
        obtain ⟨hv, hxu⟩ := hq
        rw [hxu] at hI
        rw [hv]
        refine lv_goto (tgt := 37) hx hb d1_behind_29 (by decide) ?_
        refine lv_iconst (v := nI 1) hx hb d1_behind_37 (by decide) ?_
        refine k_iadd (v := nI (((mt_tm P j).2.2.2.1 + mt_w (P j)) + 1)) hx hb (nI_add _ _) d1_behind_38 ?_
        exact kret_i (x := u) (wf := kwM h ad cI cZ) hx hb hr hlocks hK hI (⟨by simp only [mt_beo]; rw [if_pos hw]; rfl, rfl⟩) d1_behind_39
    · exact absurd (nI_pos' (by omega)) hc
set_option maxHeartbeats 4000000 in
set_option maxRecDepth 100000 in
theorem C1_give (l : Launch) (D : va_G) (cI cZ cG : ClassId) (h : Nat) (ad : Nat → Nat) (sz : Nat) (u : kU) (k : Nat) (hk : k < 200) (vt vg vr vl : Int32) (ld : Bool) (vw : Int32) (wr : Bool) : kMv l D (kty cI cZ cG) y1_give (.code y1_give c1_give 9 none) ({ frames := 0, cells := 0, slots := 0, locals := 0 }) [.ref h, .int (nI k), .int vt, .int vg, .int vr, .int vl, .int (kb ld), .int vw, .int (kb wr)] (kwM h ad cI cZ) u sz (fun x => x = mput u k vt vg vr vl ld vw wr) := by
  refine Met.ofW (cc := c1_give) (maxL := 9) (ret := none) (by decide) rfl ?_
  intro p e s m args below meth c s₁ B hml hv
  obtain ⟨rfl, hsz, hP, hK, hD0, hE, hZ⟩ := hv
  have hx := B.exec
  have hb := B.bytes
  have hr := B.returns
  have hts := atoms_spec (ws := Cond.code y1_give c1_give 9 none :: kBIG) B.pre
  have hB : ∀ w ∈ kBIG, w.before _ s = true := fun w q => hts w (List.mem_cons_of_mem _ q)
  have hown : s.vm.findClass "StageClockModel" = some m.cls := findClass_of_methodNamed B.named
  have hlocks := B.notSynchronized
  subst hsz
  have hD := hD0.self (sz := s.heap.size)
  generalize hAe : va_A (kwM h ad cI cZ u) s.heap.size = A at hD hZ ⊢
  have hA : ∀ q : Nat, s.heap.size ≤ q → A q := fun q h => by rw [← hAe]; exact Or.inr h
  have hI : kI D A s.heap (kwM h ad cI cZ u) s.heap [] := ⟨hP, hD, va_S.rf⟩
  have hl := lv_entry ([.ref h, .int (nI k), .int vt, .int vg, .int vr, .int vl, .int (kb ld), .int vw, .int (kb wr)]) (n := 9) (Nat.le_of_ble_eq_true rfl)
  rw [lg_entry_eq]
  generalize (lg_sl ([.ref h, .int (nI k), .int vt, .int vg, .int vr, .int vl, .int (kb ld), .int vw, .int (kb wr)]) ++ List.replicate (9 - (lg_sl ([.ref h, .int (nI k), .int vt, .int vg, .int vr, .int vl, .int (kb ld), .int vw, .int (kb wr)])).length) Slot.unset).toArray = ls at hl ⊢
  have hl : lv_has ls 9 [(0, .ref h), (1, .int (nI k)), (2, .int vt), (3, .int vg), (4, .int vr), (5, .int vl), (6, .int (kb ld)), (7, .int vw), (8, .int (kb wr))] := hl
  refine lv_aload_n hx hb d1_give_0 rfl (lv_at hl 0 rfl) ?_
  refine kM_g1 hx hb hB hown hK hI d1_give_1 ?_
  refine lv_iload_n hx hb d1_give_4 rfl (lv_at hl 1 rfl) ?_
  refine lv_iload_n hx hb d1_give_5 rfl (lv_at hl 2 rfl) ?_
  refine kM_s0 hx hb hK hI k (by omega) (rfl) d1_give_6 (fun H locs hI => ?_)
  refine lv_aload_n hx hb d1_give_7 rfl (lv_at hl 0 rfl) ?_
  refine kM_g2 hx hb hB hown hK hI d1_give_8 ?_
  refine lv_iload_n hx hb d1_give_11 rfl (lv_at hl 1 rfl) ?_
  refine lv_iload_n hx hb d1_give_12 rfl (lv_at hl 3 rfl) ?_
  refine kM_s1 hx hb hK hI k (by omega) (rfl) d1_give_13 (fun H locs hI => ?_)
  refine lv_aload_n hx hb d1_give_14 rfl (lv_at hl 0 rfl) ?_
  refine kM_g3 hx hb hB hown hK hI d1_give_15 ?_
  refine lv_iload_n hx hb d1_give_18 rfl (lv_at hl 1 rfl) ?_
  refine lv_iload hx hb d1_give_19 (lv_at hl 4 rfl) ?_
  refine kM_s2 hx hb hK hI k (by omega) (rfl) d1_give_21 (fun H locs hI => ?_)
  refine lv_aload_n hx hb d1_give_22 rfl (lv_at hl 0 rfl) ?_
  refine kM_g4 hx hb hB hown hK hI d1_give_23 ?_
  refine lv_iload_n hx hb d1_give_26 rfl (lv_at hl 1 rfl) ?_
  refine lv_iload hx hb d1_give_27 (lv_at hl 5 rfl) ?_
  refine kM_s3 hx hb hK hI k (by omega) (rfl) d1_give_29 (fun H locs hI => ?_)
  refine lv_aload_n hx hb d1_give_30 rfl (lv_at hl 0 rfl) ?_
  refine kM_g6 hx hb hB hown hK hI d1_give_31 ?_
  refine lv_iload_n hx hb d1_give_34 rfl (lv_at hl 1 rfl) ?_
  refine lv_iload hx hb d1_give_35 (lv_at hl 6 rfl) ?_
  refine kM_s5 hx hb hK hI k (by omega) (rfl) (kb_nar _) d1_give_37 (fun H locs hI => ?_)
  refine lv_aload_n hx hb d1_give_38 rfl (lv_at hl 0 rfl) ?_
  refine kM_g5 hx hb hB hown hK hI d1_give_39 ?_
  refine lv_iload_n hx hb d1_give_42 rfl (lv_at hl 1 rfl) ?_
  refine lv_iload hx hb d1_give_43 (lv_at hl 7 rfl) ?_
  refine kM_s4 hx hb hK hI k (by omega) (rfl) d1_give_45 (fun H locs hI => ?_)
  refine lv_aload_n hx hb d1_give_46 rfl (lv_at hl 0 rfl) ?_
  refine kM_g7 hx hb hB hown hK hI d1_give_47 ?_
  refine lv_iload_n hx hb d1_give_50 rfl (lv_at hl 1 rfl) ?_
  refine lv_iload hx hb d1_give_51 (lv_at hl 8 rfl) ?_
  refine kM_s6 hx hb hK hI k (by omega) (rfl) (kb_nar _) d1_give_53 (fun H locs hI => ?_)
  refine lv_aload_n hx hb d1_give_54 rfl (lv_at hl 0 rfl) ?_
  refine lv_iconst (v := nI 0) hx hb d1_give_55 (by decide) ?_
  refine kM_p14 hx hb hB hown hK hI d1_give_56 (fun H locs hI => ?_)
  exact kret_v (x := knum (kset (kset (kset (kset (kset (kset (kset u 0 k vt) 1 k vg) 2 k vr) 3 k vl) 5 k (kb ld)) 4 k vw) 6 k (kb wr)) 14 (nI 0)) (wf := kwM h ad cI cZ) hx hb hr hlocks hK hI (rfl) d1_give_59
