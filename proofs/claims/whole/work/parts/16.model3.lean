set_option maxHeartbeats 4000000 in
set_option maxRecDepth 100000 in
theorem C1_add (l : Launch) (D : va_G) (cI cZ cG : ClassId) (h : Nat) (ad : Nat → Nat) (sz : Nat) (u : kU) (P : Nat → kIns) (n : Nat) (hst : mSt P n u) (vt vg vr vl : Int32) (ld : Bool) (vw : Int32) (wr : Bool) : kMi l D (kty cI cZ cG) y1_add (.code y1_add c1_add 8 (some .int)) ({ frames := 1, cells := 0, slots := 0, locals := 30 }) [.ref h, .int vt, .int vg, .int vr, .int vl, .int (kb ld), .int vw, .int (kb wr)] (kwM h ad cI cZ) u sz (fun r x => ∃ c P2 n2, oA P n vt vg vr vl ld vw wr c r P2 n2 ∧ x 12 0 = nI c ∧ mSt P2 n2 x) := by
  refine Met.ofW (cc := c1_add) (maxL := 8) (ret := (some .int)) (by decide) rfl ?_
  intro p e s m args below meth c s₁ B hml hv
  obtain ⟨rfl, hsz, hP, hK, hD0, hE, hZ⟩ := hv
  have hx := B.exec
  have hb := B.bytes
  have hr := B.returns
  have hts := atoms_spec (ws := Cond.code y1_add c1_add 8 (some .int) :: kBIG) B.pre
  have hB : ∀ w ∈ kBIG, w.before _ s = true := fun w q => hts w (List.mem_cons_of_mem _ q)
  have hown : s.vm.findClass "StageClockModel" = some m.cls := findClass_of_methodNamed B.named
  have hlocks := B.notSynchronized
  subst hsz
  have hD := hD0.self (sz := s.heap.size)
  generalize hAe : va_A (kwM h ad cI cZ u) s.heap.size = A at hD hZ ⊢
  have hA : ∀ q : Nat, s.heap.size ≤ q → A q := fun q h => by rw [← hAe]; exact Or.inr h
  have hI : kI D A s.heap (kwM h ad cI cZ u) s.heap [] := ⟨hP, hD, va_S.rf⟩
  have hl := lv_entry ([.ref h, .int vt, .int vg, .int vr, .int vl, .int (kb ld), .int vw, .int (kb wr)]) (n := 8) (Nat.le_of_ble_eq_true rfl)
  rw [lg_entry_eq]
  generalize (lg_sl ([.ref h, .int vt, .int vg, .int vr, .int vl, .int (kb ld), .int vw, .int (kb wr)]) ++ List.replicate (8 - (lg_sl ([.ref h, .int vt, .int vg, .int vr, .int vl, .int (kb ld), .int vw, .int (kb wr)])).length) Slot.unset).toArray = ls at hl ⊢
  have hl : lv_has ls 8 [(0, .ref h), (1, .int vt), (2, .int vg), (3, .int vr), (4, .int vl), (5, .int (kb ld)), (6, .int vw), (7, .int (kb wr))] := hl
  have hin := hst.1
  have hn := hin.2.1
  refine lv_aload_n hx hb d1_add_0 rfl (lv_at hl 0 rfl) ?_
  refine lv_iload_n hx hb d1_add_1 rfl (lv_at hl 1 rfl) ?_
  refine lv_iload_n hx hb d1_add_2 rfl (lv_at hl 2 rfl) ?_
  refine lv_iload hx hb d1_add_3 (lv_at hl 4 rfl) ?_
  refine lv_iload hx hb d1_add_5 (lv_at hl 6 rfl) ?_
  refine kcall_si (n := 4) (u := u) (wf := kwM h ad cI cZ) (As := [.int vt, .int vg, .int vl, .int vw]) (rest := [.ref h]) hx hb hml hown hB hK hI hA hE hZ (C1_bad l D cI cZ cG h ad s.heap.size u vt vg vl vw) (kgS kw_341 kw_342 kw_2 kw_343) (by decide +kernel) ⟨Nat.le_of_ble_eq_true rfl, Nat.le_of_ble_eq_true rfl⟩ rfl hl.1 (Nat.le_of_ble_eq_true rfl) d1_add_7 ⟨Nat.le_of_ble_eq_true rfl, Nat.le_of_ble_eq_true rfl⟩ rfl (fun ra xa H locs hq hI => ?_)
  obtain ⟨b, hv, hbf, hxu⟩ := hq
  rw [hxu] at hI
  rw [hv]
  refine lv_iconst (v := nI 1) hx hb d1_add_10 (by decide) ?_
  refine kcall_i (n := 2) (u := u) (wf := kwM h ad cI cZ) (As := [.int (kb b), .int (nI 1)]) (b := h) (rest := []) hx hb hml hown hB hK hI hA hE hZ (C1_fails l D cI cZ cG h ad H.size u b (nI 1)) (kgV kw_344 kw_346 ks1_fails kw_2 kw_347) (by decide +kernel) ⟨Nat.le_of_ble_eq_true rfl, Nat.le_of_ble_eq_true rfl⟩ (va_recv (q0 := 0) (ci := 1) hK hI.1 rfl rfl) rfl hl.1 (Nat.le_of_ble_eq_true rfl) d1_add_11 ⟨Nat.le_of_ble_eq_true rfl, Nat.le_of_ble_eq_true rfl⟩ rfl (fun ra u1 H locs hq1 hI => ?_)
  obtain ⟨hvu1, hu1⟩ := hq1
  rw [hvu1]
  refine lv_if_eq (tgt := 19) hx hb d1_add_14 (by decide) (fun hc => ?_) (fun hc => ?_)
  · skip
    have hw := kb_0 hc
    have hfit : kFit vt vg vl vw := Classical.byContradiction (fun q => by rw [hbf.mpr q] at hw; exact Bool.noConfusion hw)
    subst hw
    have hu1 : u1 = knum u 12 (nI 0) := hu1
    refine lv_aload_n hx hb d1_add_19 rfl (lv_at hl 0 rfl) ?_
    refine lv_aload_n hx hb d1_add_20 rfl (lv_at hl 0 rfl) ?_
    refine kM_g13 hx hb hB hown hK hI d1_add_21 ?_
    rw [show u1 13 0 = nI n from by rw [hu1]; exact hst.1.1]
    refine lv_sipush (v := nI 200) hx hb d1_add_24 (by decide) ?_
    refine lv_icmp_ne (tgt := 34) hx hb d1_add_27 (by decide) (fun hc => ?_) (fun hc => ?_)
    · skip
      have hn2 : n ≠ 200 := fun q => hc (by rw [q])
      refine lv_iconst (v := kb false) hx hb d1_add_34 (by decide) ?_
      refine lv_iconst (v := nI 2) hx hb d1_add_35 (by decide) ?_
      refine kcall_i (n := 2) (u := u1) (wf := kwM h ad cI cZ) (As := [.int (kb false), .int (nI 2)]) (b := h) (rest := []) hx hb hml hown hB hK hI hA hE hZ (C1_fails l D cI cZ cG h ad H.size u1 false (nI 2)) (kgV kw_344 kw_346 ks1_fails kw_2 kw_347) (by decide +kernel) ⟨Nat.le_of_ble_eq_true rfl, Nat.le_of_ble_eq_true rfl⟩ (va_recv (q0 := 0) (ci := 1) hK hI.1 rfl rfl) rfl hl.1 (Nat.le_of_ble_eq_true rfl) d1_add_36 ⟨Nat.le_of_ble_eq_true rfl, Nat.le_of_ble_eq_true rfl⟩ rfl (fun ra u2 H locs hq2 hI => ?_)
      obtain ⟨hvu2, hu2⟩ := hq2
      rw [hvu2]
      refine lv_if_eq (tgt := 44) hx hb d1_add_39 (by decide) (fun hc => ?_) (fun hc => ?_)
      · skip
        refine lv_aload_n hx hb d1_add_44 rfl (lv_at hl 0 rfl) ?_
        refine lv_aload_n hx hb d1_add_45 rfl (lv_at hl 0 rfl) ?_
        refine lv_dup hx hb d1_add_46 rfl ?_
        refine kM_g13 hx hb hB hown hK hI d1_add_47 ?_
        rw [show u2 13 0 = nI n from by rw [hu2, hu1]; exact hst.1.1]
        refine lv_dup_x1 hx hb d1_add_50 rfl rfl ?_
        refine lv_iconst (v := nI 1) hx hb d1_add_51 (by decide) ?_
        refine k_iadd (v := nI (n + 1)) hx hb (nI_add _ _) d1_add_52 ?_
        refine kM_p13 hx hb hB hown hK hI d1_add_53 (fun H locs hI => ?_)
        obtain ⟨u3, hu3⟩ : ∃ zz : kU, zz = knum u2 13 (nI (n + 1)) := ⟨_, rfl⟩
        rw [← hu3] at hI
        refine lv_iload_n hx hb d1_add_56 rfl (lv_at hl 1 rfl) ?_
        refine lv_iload_n hx hb d1_add_57 rfl (lv_at hl 2 rfl) ?_
        refine lv_iload_n hx hb d1_add_58 rfl (lv_at hl 3 rfl) ?_
        refine lv_iload hx hb d1_add_59 (lv_at hl 4 rfl) ?_
        refine lv_iload hx hb d1_add_61 (lv_at hl 5 rfl) ?_
        refine lv_iload hx hb d1_add_63 (lv_at hl 6 rfl) ?_
        refine lv_iload hx hb d1_add_65 (lv_at hl 7 rfl) ?_
        refine kcall_v (n := 8) (u := u3) (wf := kwM h ad cI cZ) (As := [.int (nI n), .int vt, .int vg, .int vr, .int vl, .int (kb ld), .int vw, .int (kb wr)]) (b := h) (rest := []) hx hb hml hown hB hK hI hA hE hZ (C1_give l D cI cZ cG h ad H.size u3 n (by omega) vt vg vr vl ld vw wr) (kgV kw_348 kw_350 ks1_give kw_2 kw_351) (by decide +kernel) ⟨Nat.le_of_ble_eq_true rfl, Nat.le_of_ble_eq_true rfl⟩ (va_recv (q0 := 0) (ci := 1) hK hI.1 rfl rfl) rfl hl.1 (Nat.le_of_ble_eq_true rfl) d1_add_67 ⟨Nat.le_of_ble_eq_true rfl, Nat.le_of_ble_eq_true rfl⟩ rfl (fun u4 H locs hq4 hI => ?_)
        refine lv_aload_n hx hb d1_add_70 rfl (lv_at hl 0 rfl) ?_
        refine kM_g13 hx hb hB hown hK hI d1_add_71 ?_
        rw [show u4 13 0 = nI (n + 1) from by rw [hq4, mput_hi (by decide) (by decide), hu3]; rfl]
        refine lv_iconst (v := nI 1) hx hb d1_add_74 (by decide) ?_
        refine k_isub (v := nI n) hx hb (pk_sub (by omega)) d1_add_75 ?_
        exact kret_i (x := u4) (wf := kwM h ad cI cZ) hx hb hr hlocks hK hI (⟨0, _, n + 1, Or.inr (Or.inr ⟨rfl, hfit, by omega, rfl, rfl, rfl⟩), by rw [hq4, mput_hi (by decide) (by decide), hu3, hu2]; rfl, by rw [hq4]; exact mSt_put hfit (by omega) (by rw [hu3]; rfl) (fun i hi hne => by rw [hu3, hu2, hu1]; exact hst.1.2.2 i (by omega))⟩) d1_add_76
      · exact absurd rfl hc
    · skip
      have hn2 : n = 200 := (nI_eq (by omega) (by decide)).mp hc
      refine lv_iconst (v := kb true) hx hb d1_add_30 (by decide) ?_
      refine lv_goto (tgt := 35) hx hb d1_add_31 (by decide) ?_
      refine lv_iconst (v := nI 2) hx hb d1_add_35 (by decide) ?_
      refine kcall_i (n := 2) (u := u1) (wf := kwM h ad cI cZ) (As := [.int (kb true), .int (nI 2)]) (b := h) (rest := []) hx hb hml hown hB hK hI hA hE hZ (C1_fails l D cI cZ cG h ad H.size u1 true (nI 2)) (kgV kw_344 kw_346 ks1_fails kw_2 kw_347) (by decide +kernel) ⟨Nat.le_of_ble_eq_true rfl, Nat.le_of_ble_eq_true rfl⟩ (va_recv (q0 := 0) (ci := 1) hK hI.1 rfl rfl) rfl hl.1 (Nat.le_of_ble_eq_true rfl) d1_add_36 ⟨Nat.le_of_ble_eq_true rfl, Nat.le_of_ble_eq_true rfl⟩ rfl (fun ra u2 H locs hq2 hI => ?_)
      obtain ⟨hvu2, hu2⟩ := hq2
      rw [hvu2]
      refine lv_if_eq (tgt := 44) hx hb d1_add_39 (by decide) (fun hc => ?_) (fun hc => ?_)
      · exact absurd hc (by decide)
      · skip
        refine lv_iconst (v := nI 0) hx hb d1_add_42 (by decide) ?_
        exact kret_i (x := u2) (wf := kwM h ad cI cZ) hx hb hr hlocks hK hI (⟨2, P, n, Or.inr (Or.inl ⟨rfl, hfit, hn2, rfl, rfl⟩), by rw [hu2]; rfl, by rw [hu2, hu1]; exact mSt_err (mSt_err hst)⟩) d1_add_43
  · skip
    have hw := kb_1 hc
    have hnf := hbf.mp hw
    subst hw
    have hu1 : u1 = knum u 12 (nI 1) := hu1
    refine lv_iconst (v := nI 0) hx hb d1_add_17 (by decide) ?_
    exact kret_i (x := u1) (wf := kwM h ad cI cZ) hx hb hr hlocks hK hI (⟨1, P, n, Or.inl ⟨rfl, hnf, rfl, rfl⟩, by rw [hu1]; rfl, by rw [hu1]; exact mSt_err hst⟩) d1_add_18
set_option maxHeartbeats 4000000 in
set_option maxRecDepth 100000 in
theorem C1_change (l : Launch) (D : va_G) (cI cZ cG : ClassId) (h : Nat) (ad : Nat → Nat) (sz : Nat) (u : kU) (P : Nat → kIns) (n : Nat) (hst : mSt P n u) (vk : Int32) (vt vg vr vl : Int32) (ld : Bool) (vw : Int32) (wr : Bool) : kMv l D (kty cI cZ cG) y1_change (.code y1_change c1_change 9 none) ({ frames := 1, cells := 0, slots := 0, locals := 30 }) [.ref h, .int vk, .int vt, .int vg, .int vr, .int vl, .int (kb ld), .int vw, .int (kb wr)] (kwM h ad cI cZ) u sz (fun x => ∃ c P2, oC P n vk vt vg vr vl ld vw wr c P2 ∧ x 12 0 = nI c ∧ mSt P2 n x) := by
  refine Met.ofW (cc := c1_change) (maxL := 9) (ret := none) (by decide) rfl ?_
  intro p e s m args below meth c s₁ B hml hv
  obtain ⟨rfl, hsz, hP, hK, hD0, hE, hZ⟩ := hv
  have hx := B.exec
  have hb := B.bytes
  have hr := B.returns
  have hts := atoms_spec (ws := Cond.code y1_change c1_change 9 none :: kBIG) B.pre
  have hB : ∀ w ∈ kBIG, w.before _ s = true := fun w q => hts w (List.mem_cons_of_mem _ q)
  have hown : s.vm.findClass "StageClockModel" = some m.cls := findClass_of_methodNamed B.named
  have hlocks := B.notSynchronized
  subst hsz
  have hD := hD0.self (sz := s.heap.size)
  generalize hAe : va_A (kwM h ad cI cZ u) s.heap.size = A at hD hZ ⊢
  have hA : ∀ q : Nat, s.heap.size ≤ q → A q := fun q h => by rw [← hAe]; exact Or.inr h
  have hI : kI D A s.heap (kwM h ad cI cZ u) s.heap [] := ⟨hP, hD, va_S.rf⟩
  have hl := lv_entry ([.ref h, .int vk, .int vt, .int vg, .int vr, .int vl, .int (kb ld), .int vw, .int (kb wr)]) (n := 9) (Nat.le_of_ble_eq_true rfl)
  rw [lg_entry_eq]
  generalize (lg_sl ([.ref h, .int vk, .int vt, .int vg, .int vr, .int vl, .int (kb ld), .int vw, .int (kb wr)]) ++ List.replicate (9 - (lg_sl ([.ref h, .int vk, .int vt, .int vg, .int vr, .int vl, .int (kb ld), .int vw, .int (kb wr)])).length) Slot.unset).toArray = ls at hl ⊢
  have hl : lv_has ls 9 [(0, .ref h), (1, .int vk), (2, .int vt), (3, .int vg), (4, .int vr), (5, .int vl), (6, .int (kb ld)), (7, .int vw), (8, .int (kb wr))] := hl
  have hin := hst.1
  have hn := hin.2.1
  refine lv_aload_n hx hb d1_change_0 rfl (lv_at hl 0 rfl) ?_
  refine lv_iload_n hx hb d1_change_1 rfl (lv_at hl 2 rfl) ?_
  refine lv_iload_n hx hb d1_change_2 rfl (lv_at hl 3 rfl) ?_
  refine lv_iload hx hb d1_change_3 (lv_at hl 5 rfl) ?_
  refine lv_iload hx hb d1_change_5 (lv_at hl 7 rfl) ?_
  refine kcall_si (n := 4) (u := u) (wf := kwM h ad cI cZ) (As := [.int vt, .int vg, .int vl, .int vw]) (rest := [.ref h]) hx hb hml hown hB hK hI hA hE hZ (C1_bad l D cI cZ cG h ad s.heap.size u vt vg vl vw) (kgS kw_341 kw_342 kw_2 kw_343) (by decide +kernel) ⟨Nat.le_of_ble_eq_true rfl, Nat.le_of_ble_eq_true rfl⟩ rfl hl.1 (Nat.le_of_ble_eq_true rfl) d1_change_7 ⟨Nat.le_of_ble_eq_true rfl, Nat.le_of_ble_eq_true rfl⟩ rfl (fun ra xa H locs hq hI => ?_)
  obtain ⟨b, hv, hbf, hxu⟩ := hq
  rw [hxu] at hI
  rw [hv]
  refine lv_iconst (v := nI 1) hx hb d1_change_10 (by decide) ?_
  refine kcall_i (n := 2) (u := u) (wf := kwM h ad cI cZ) (As := [.int (kb b), .int (nI 1)]) (b := h) (rest := []) hx hb hml hown hB hK hI hA hE hZ (C1_fails l D cI cZ cG h ad H.size u b (nI 1)) (kgV kw_344 kw_346 ks1_fails kw_2 kw_347) (by decide +kernel) ⟨Nat.le_of_ble_eq_true rfl, Nat.le_of_ble_eq_true rfl⟩ (va_recv (q0 := 0) (ci := 1) hK hI.1 rfl rfl) rfl hl.1 (Nat.le_of_ble_eq_true rfl) d1_change_11 ⟨Nat.le_of_ble_eq_true rfl, Nat.le_of_ble_eq_true rfl⟩ rfl (fun ra u1 H locs hq1 hI => ?_)
  obtain ⟨hvu1, hu1⟩ := hq1
  rw [hvu1]
  refine lv_if_eq (tgt := 18) hx hb d1_change_14 (by decide) (fun hc => ?_) (fun hc => ?_)
  · skip
    have hw := kb_0 hc
    have hfit : kFit vt vg vl vw := Classical.byContradiction (fun q => by rw [hbf.mpr q] at hw; exact Bool.noConfusion hw)
    subst hw
    have hu1 : u1 = knum u 12 (nI 0) := hu1
    refine lv_aload_n hx hb d1_change_18 rfl (lv_at hl 0 rfl) ?_
    refine lv_iload_n hx hb d1_change_19 rfl (lv_at hl 1 rfl) ?_
    refine lv_if_lt (tgt := 31) hx hb d1_change_20 (by decide) (fun hc => ?_) (fun hc => ?_)
    · skip
      have hnk : ¬ kIx vk n := kIx_neg (by omega) hc
      refine lv_iconst (v := kb true) hx hb d1_change_31 (by decide) ?_
      refine lv_goto (tgt := 36) hx hb d1_change_32 (by decide) ?_
      refine lv_iconst (v := nI 2) hx hb d1_change_36 (by decide) ?_
      refine kcall_i (n := 2) (u := u1) (wf := kwM h ad cI cZ) (As := [.int (kb true), .int (nI 2)]) (b := h) (rest := []) hx hb hml hown hB hK hI hA hE hZ (C1_fails l D cI cZ cG h ad H.size u1 true (nI 2)) (kgV kw_344 kw_346 ks1_fails kw_2 kw_347) (by decide +kernel) ⟨Nat.le_of_ble_eq_true rfl, Nat.le_of_ble_eq_true rfl⟩ (va_recv (q0 := 0) (ci := 1) hK hI.1 rfl rfl) rfl hl.1 (Nat.le_of_ble_eq_true rfl) d1_change_37 ⟨Nat.le_of_ble_eq_true rfl, Nat.le_of_ble_eq_true rfl⟩ rfl (fun ra u2 H locs hq2 hI => ?_)
      obtain ⟨hvu2, hu2⟩ := hq2
      rw [hvu2]
      refine lv_if_eq (tgt := 44) hx hb d1_change_40 (by decide) (fun hc => ?_) (fun hc => ?_)
      · exact absurd hc (by decide)
      · skip
        exact kret_v (x := u2) (wf := kwM h ad cI cZ) hx hb hr hlocks hK hI (⟨2, P, Or.inr (Or.inl ⟨rfl, hfit, hnk, rfl⟩), by rw [hu2]; rfl, by rw [hu2, hu1]; exact mSt_err (mSt_err hst)⟩) d1_change_43
    · skip
      have f1 := hc
      refine lv_iload_n hx hb d1_change_23 rfl (lv_at hl 1 rfl) ?_
      refine lv_aload_n hx hb d1_change_24 rfl (lv_at hl 0 rfl) ?_
      refine kM_g13 hx hb hB hown hK hI d1_change_25 ?_
      rw [show u1 13 0 = nI n from by rw [hu1]; exact hst.1.1]
      refine lv_icmp_lt (tgt := 35) hx hb d1_change_28 (by decide) (fun hc => ?_) (fun hc => ?_)
      · skip
        obtain ⟨k, hkn, rfl⟩ := kIx_of (by omega) f1 hc
        refine lv_iconst (v := kb false) hx hb d1_change_35 (by decide) ?_
        refine lv_iconst (v := nI 2) hx hb d1_change_36 (by decide) ?_
        refine kcall_i (n := 2) (u := u1) (wf := kwM h ad cI cZ) (As := [.int (kb false), .int (nI 2)]) (b := h) (rest := []) hx hb hml hown hB hK hI hA hE hZ (C1_fails l D cI cZ cG h ad H.size u1 false (nI 2)) (kgV kw_344 kw_346 ks1_fails kw_2 kw_347) (by decide +kernel) ⟨Nat.le_of_ble_eq_true rfl, Nat.le_of_ble_eq_true rfl⟩ (va_recv (q0 := 0) (ci := 1) hK hI.1 rfl rfl) rfl hl.1 (Nat.le_of_ble_eq_true rfl) d1_change_37 ⟨Nat.le_of_ble_eq_true rfl, Nat.le_of_ble_eq_true rfl⟩ rfl (fun ra u2 H locs hq2 hI => ?_)
        obtain ⟨hvu2, hu2⟩ := hq2
        rw [hvu2]
        refine lv_if_eq (tgt := 44) hx hb d1_change_40 (by decide) (fun hc => ?_) (fun hc => ?_)
        · skip
          refine lv_aload_n hx hb d1_change_44 rfl (lv_at hl 0 rfl) ?_
          refine lv_iload_n hx hb d1_change_45 rfl (lv_at hl 1 rfl) ?_
          refine lv_iload_n hx hb d1_change_46 rfl (lv_at hl 2 rfl) ?_
          refine lv_iload_n hx hb d1_change_47 rfl (lv_at hl 3 rfl) ?_
          refine lv_iload hx hb d1_change_48 (lv_at hl 4 rfl) ?_
          refine lv_iload hx hb d1_change_50 (lv_at hl 5 rfl) ?_
          refine lv_iload hx hb d1_change_52 (lv_at hl 6 rfl) ?_
          refine lv_iload hx hb d1_change_54 (lv_at hl 7 rfl) ?_
          refine lv_iload hx hb d1_change_56 (lv_at hl 8 rfl) ?_
          refine kcall_v (n := 8) (u := u2) (wf := kwM h ad cI cZ) (As := [.int (nI k), .int vt, .int vg, .int vr, .int vl, .int (kb ld), .int vw, .int (kb wr)]) (b := h) (rest := []) hx hb hml hown hB hK hI hA hE hZ (C1_give l D cI cZ cG h ad H.size u2 k (by omega) vt vg vr vl ld vw wr) (kgV kw_348 kw_350 ks1_give kw_2 kw_351) (by decide +kernel) ⟨Nat.le_of_ble_eq_true rfl, Nat.le_of_ble_eq_true rfl⟩ (va_recv (q0 := 0) (ci := 1) hK hI.1 rfl rfl) rfl hl.1 (Nat.le_of_ble_eq_true rfl) d1_change_58 ⟨Nat.le_of_ble_eq_true rfl, Nat.le_of_ble_eq_true rfl⟩ rfl (fun u4 H locs hq4 hI => ?_)
          exact kret_v (x := u4) (wf := kwM h ad cI cZ) hx hb hr hlocks hK hI (⟨0, _, Or.inr (Or.inr ⟨rfl, hfit, k, hkn, rfl, rfl⟩), by rw [hq4, mput_hi (by decide) (by decide), hu2]; rfl, by rw [hq4]; exact mSt_put hfit (by omega) (by rw [hu2, hu1]; exact hst.1.1) (fun i hi _ => by rw [hu2, hu1]; exact hst.1.2.2 i hi)⟩) d1_change_61
        · exact absurd rfl hc
      · skip
        have hnk : ¬ kIx vk n := kIx_ge (by omega) hc
        refine lv_iconst (v := kb true) hx hb d1_change_31 (by decide) ?_
        refine lv_goto (tgt := 36) hx hb d1_change_32 (by decide) ?_
        refine lv_iconst (v := nI 2) hx hb d1_change_36 (by decide) ?_
        refine kcall_i (n := 2) (u := u1) (wf := kwM h ad cI cZ) (As := [.int (kb true), .int (nI 2)]) (b := h) (rest := []) hx hb hml hown hB hK hI hA hE hZ (C1_fails l D cI cZ cG h ad H.size u1 true (nI 2)) (kgV kw_344 kw_346 ks1_fails kw_2 kw_347) (by decide +kernel) ⟨Nat.le_of_ble_eq_true rfl, Nat.le_of_ble_eq_true rfl⟩ (va_recv (q0 := 0) (ci := 1) hK hI.1 rfl rfl) rfl hl.1 (Nat.le_of_ble_eq_true rfl) d1_change_37 ⟨Nat.le_of_ble_eq_true rfl, Nat.le_of_ble_eq_true rfl⟩ rfl (fun ra u2 H locs hq2 hI => ?_)
        obtain ⟨hvu2, hu2⟩ := hq2
        rw [hvu2]
        refine lv_if_eq (tgt := 44) hx hb d1_change_40 (by decide) (fun hc => ?_) (fun hc => ?_)
        · exact absurd hc (by decide)
        · skip
          exact kret_v (x := u2) (wf := kwM h ad cI cZ) hx hb hr hlocks hK hI (⟨2, P, Or.inr (Or.inl ⟨rfl, hfit, hnk, rfl⟩), by rw [hu2]; rfl, by rw [hu2, hu1]; exact mSt_err (mSt_err hst)⟩) d1_change_43
  · skip
    have hw := kb_1 hc
    have hnf := hbf.mp hw
    subst hw
    have hu1 : u1 = knum u 12 (nI 1) := hu1
    exact kret_v (x := u1) (wf := kwM h ad cI cZ) hx hb hr hlocks hK hI (⟨1, P, Or.inl ⟨rfl, hnf, rfl⟩, by rw [hu1]; rfl, by rw [hu1]; exact mSt_err hst⟩) d1_change_17
set_option maxHeartbeats 4000000 in
set_option maxRecDepth 100000 in
theorem C1_cut (l : Launch) (D : va_G) (cI cZ cG : ClassId) (h : Nat) (ad : Nat → Nat) (sz : Nat) (u : kU) (P : Nat → kIns) (n : Nat) (hst : mSt P n u) (vn : Int32) : kMi l D (kty cI cZ cG) y1_cut (.code y1_cut c1_cut 3 (some .int)) ({ frames := 1, cells := 0, slots := 0, locals := 30 }) [.ref h, .int vn] (kwM h ad cI cZ) u sz (fun r x => ∃ c n2, oT n vn c r n2 ∧ x 12 0 = nI c ∧ mSt P n2 x) := by
  refine Met.ofW (cc := c1_cut) (maxL := 3) (ret := (some .int)) (by decide) rfl ?_
  intro p e s m args below meth c s₁ B hml hv
  obtain ⟨rfl, hsz, hP, hK, hD0, hE, hZ⟩ := hv
  have hx := B.exec
  have hb := B.bytes
  have hr := B.returns
  have hts := atoms_spec (ws := Cond.code y1_cut c1_cut 3 (some .int) :: kBIG) B.pre
  have hB : ∀ w ∈ kBIG, w.before _ s = true := fun w q => hts w (List.mem_cons_of_mem _ q)
  have hown : s.vm.findClass "StageClockModel" = some m.cls := findClass_of_methodNamed B.named
  have hlocks := B.notSynchronized
  subst hsz
  have hD := hD0.self (sz := s.heap.size)
  generalize hAe : va_A (kwM h ad cI cZ u) s.heap.size = A at hD hZ ⊢
  have hA : ∀ q : Nat, s.heap.size ≤ q → A q := fun q h => by rw [← hAe]; exact Or.inr h
  have hI : kI D A s.heap (kwM h ad cI cZ u) s.heap [] := ⟨hP, hD, va_S.rf⟩
  have hl := lv_entry ([.ref h, .int vn]) (n := 3) (Nat.le_of_ble_eq_true rfl)
  rw [lg_entry_eq]
  generalize (lg_sl ([.ref h, .int vn]) ++ List.replicate (3 - (lg_sl ([.ref h, .int vn])).length) Slot.unset).toArray = ls at hl ⊢
  have hl : lv_has ls 3 [(0, .ref h), (1, .int vn)] := hl
  have hin := hst.1
  have hn := hin.2.1
  refine lv_aload_n hx hb d1_cut_0 rfl (lv_at hl 0 rfl) ?_
  refine lv_iload_n hx hb d1_cut_1 rfl (lv_at hl 1 rfl) ?_
  refine lv_if_lt (tgt := 13) hx hb d1_cut_2 (by decide) (fun hc => ?_) (fun hc => ?_)
  · skip
    have hnk : ¬ kIx vn (n + 1) := kIx_neg (by omega) hc
    refine lv_iconst (v := kb true) hx hb d1_cut_13 (by decide) ?_
    refine lv_goto (tgt := 18) hx hb d1_cut_14 (by decide) ?_
    refine lv_iconst (v := nI 1) hx hb d1_cut_18 (by decide) ?_
    refine kcall_i (n := 2) (u := u) (wf := kwM h ad cI cZ) (As := [.int (kb true), .int (nI 1)]) (b := h) (rest := []) hx hb hml hown hB hK hI hA hE hZ (C1_fails l D cI cZ cG h ad s.heap.size u true (nI 1)) (kgV kw_344 kw_346 ks1_fails kw_2 kw_347) (by decide +kernel) ⟨Nat.le_of_ble_eq_true rfl, Nat.le_of_ble_eq_true rfl⟩ (va_recv (q0 := 0) (ci := 1) hK hI.1 rfl rfl) rfl hl.1 (Nat.le_of_ble_eq_true rfl) d1_cut_19 ⟨Nat.le_of_ble_eq_true rfl, Nat.le_of_ble_eq_true rfl⟩ rfl (fun ra u1 H locs hq1 hI => ?_)
    obtain ⟨hvu1, hu1⟩ := hq1
    rw [hvu1]
    refine lv_if_eq (tgt := 27) hx hb d1_cut_22 (by decide) (fun hc => ?_) (fun hc => ?_)
    · exact absurd hc (by decide)
    · skip
      refine lv_iconst (v := nI 0) hx hb d1_cut_25 (by decide) ?_
      exact kret_i (x := u1) (wf := kwM h ad cI cZ) hx hb hr hlocks hK hI (⟨1, n, Or.inl ⟨rfl, hnk, rfl⟩, by rw [hu1]; rfl, by rw [hu1]; exact mSt_err hst⟩) d1_cut_26
  · skip
    have f1 := hc
    refine lv_iload_n hx hb d1_cut_5 rfl (lv_at hl 1 rfl) ?_
    refine lv_aload_n hx hb d1_cut_6 rfl (lv_at hl 0 rfl) ?_
    refine kM_g13 hx hb hB hown hK hI d1_cut_7 ?_
    rw [show u 13 0 = nI n from hin.1]
    refine lv_icmp_le (tgt := 17) hx hb d1_cut_10 (by decide) (fun hc => ?_) (fun hc => ?_)
    · skip
      obtain ⟨k, hkn, rfl⟩ := kIx_le (by omega) f1 hc
      refine lv_iconst (v := kb false) hx hb d1_cut_17 (by decide) ?_
      refine lv_iconst (v := nI 1) hx hb d1_cut_18 (by decide) ?_
      refine kcall_i (n := 2) (u := u) (wf := kwM h ad cI cZ) (As := [.int (kb false), .int (nI 1)]) (b := h) (rest := []) hx hb hml hown hB hK hI hA hE hZ (C1_fails l D cI cZ cG h ad s.heap.size u false (nI 1)) (kgV kw_344 kw_346 ks1_fails kw_2 kw_347) (by decide +kernel) ⟨Nat.le_of_ble_eq_true rfl, Nat.le_of_ble_eq_true rfl⟩ (va_recv (q0 := 0) (ci := 1) hK hI.1 rfl rfl) rfl hl.1 (Nat.le_of_ble_eq_true rfl) d1_cut_19 ⟨Nat.le_of_ble_eq_true rfl, Nat.le_of_ble_eq_true rfl⟩ rfl (fun ra u1 H locs hq1 hI => ?_)
      obtain ⟨hvu1, hu1⟩ := hq1
      rw [hvu1]
      refine lv_if_eq (tgt := 27) hx hb d1_cut_22 (by decide) (fun hc => ?_) (fun hc => ?_)
      · skip
        refine lv_aload_n hx hb d1_cut_27 rfl (lv_at hl 0 rfl) ?_
        refine kM_g13 hx hb hB hown hK hI d1_cut_28 ?_
        rw [show u1 13 0 = nI n from by rw [hu1]; exact hst.1.1]
        refine lv_istore_n hx hb d1_cut_31 rfl hl (by decide) rfl (fun ls hl => ?_)
        have hl : lv_has ls 3 [(2, .int (nI n)), (0, .ref h), (1, .int (nI k))] := hl
        refine lv_aload_n hx hb d1_cut_32 rfl (lv_at hl 1 rfl) ?_
        refine lv_iload_n hx hb d1_cut_33 rfl (lv_at hl 2 rfl) ?_
        refine kM_p13 hx hb hB hown hK hI d1_cut_34 (fun H locs hI => ?_)
        obtain ⟨u2, hu2⟩ : ∃ zz : kU, zz = knum u1 13 (nI k) := ⟨_, rfl⟩
        rw [← hu2] at hI
        refine lv_aload_n hx hb d1_cut_37 rfl (lv_at hl 1 rfl) ?_
        refine lv_iconst (v := nI 0) hx hb d1_cut_38 (by decide) ?_
        refine kM_p14 hx hb hB hown hK hI d1_cut_39 (fun H locs hI => ?_)
        obtain ⟨u3, hu3⟩ : ∃ zz : kU, zz = knum u2 14 (nI 0) := ⟨_, rfl⟩
        rw [← hu3] at hI
        refine lv_iload_n hx hb d1_cut_42 rfl (lv_at hl 0 rfl) ?_
        exact kret_i (x := u3) (wf := kwM h ad cI cZ) hx hb hr hlocks hK hI (⟨0, k, Or.inr ⟨rfl, rfl, hkn, rfl⟩, by rw [hu3, hu2, hu1]; rfl, by rw [hu3, hu2, hu1]; exact mSt_cut (x := 0) (mSt_err hst) (by omega)⟩) d1_cut_43
      · exact absurd rfl hc
    · skip
      have hnk : ¬ kIx vn (n + 1) := kIx_gt (by omega) hc
      refine lv_iconst (v := kb true) hx hb d1_cut_13 (by decide) ?_
      refine lv_goto (tgt := 18) hx hb d1_cut_14 (by decide) ?_
      refine lv_iconst (v := nI 1) hx hb d1_cut_18 (by decide) ?_
      refine kcall_i (n := 2) (u := u) (wf := kwM h ad cI cZ) (As := [.int (kb true), .int (nI 1)]) (b := h) (rest := []) hx hb hml hown hB hK hI hA hE hZ (C1_fails l D cI cZ cG h ad s.heap.size u true (nI 1)) (kgV kw_344 kw_346 ks1_fails kw_2 kw_347) (by decide +kernel) ⟨Nat.le_of_ble_eq_true rfl, Nat.le_of_ble_eq_true rfl⟩ (va_recv (q0 := 0) (ci := 1) hK hI.1 rfl rfl) rfl hl.1 (Nat.le_of_ble_eq_true rfl) d1_cut_19 ⟨Nat.le_of_ble_eq_true rfl, Nat.le_of_ble_eq_true rfl⟩ rfl (fun ra u1 H locs hq1 hI => ?_)
      obtain ⟨hvu1, hu1⟩ := hq1
      rw [hvu1]
      refine lv_if_eq (tgt := 27) hx hb d1_cut_22 (by decide) (fun hc => ?_) (fun hc => ?_)
      · exact absurd hc (by decide)
      · skip
        refine lv_iconst (v := nI 0) hx hb d1_cut_25 (by decide) ?_
        exact kret_i (x := u1) (wf := kwM h ad cI cZ) hx hb hr hlocks hK hI (⟨1, n, Or.inl ⟨rfl, hnk, rfl⟩, by rw [hu1]; rfl, by rw [hu1]; exact mSt_err hst⟩) d1_cut_26
set_option maxHeartbeats 4000000 in
set_option maxRecDepth 100000 in
theorem C1_from (l : Launch) (D : va_G) (cI cZ cG : ClassId) (h : Nat) (ad : Nat → Nat) (sz : Nat) (u : kU) (P : Nat → kIns) (n : Nat) (hall : mAll P n u) (k st : Nat) (hk : k < n) (hs6 : st < 6) : kMi l D (kty cI cZ cG) y1_from (.code y1_from c1_from 3 (some .int)) ({ frames := 0, cells := 0, slots := 0, locals := 0 }) [.ref h, .int (nI k), .int (nI st)] (kwM h ad cI cZ) u sz (fun v x => v = nI (mt_from P k st) ∧ x = u) := by
  refine Met.ofW (cc := c1_from) (maxL := 3) (ret := (some .int)) (by decide) rfl ?_
  intro p e s m args below meth c s₁ B hml hv
  obtain ⟨rfl, hsz, hP, hK, hD0, hE, hZ⟩ := hv
  have hx := B.exec
  have hb := B.bytes
  have hr := B.returns
  have hts := atoms_spec (ws := Cond.code y1_from c1_from 3 (some .int) :: kBIG) B.pre
  have hB : ∀ w ∈ kBIG, w.before _ s = true := fun w q => hts w (List.mem_cons_of_mem _ q)
  have hown : s.vm.findClass "StageClockModel" = some m.cls := findClass_of_methodNamed B.named
  have hlocks := B.notSynchronized
  subst hsz
  have hD := hD0.self (sz := s.heap.size)
  generalize hAe : va_A (kwM h ad cI cZ u) s.heap.size = A at hD hZ ⊢
  have hA : ∀ q : Nat, s.heap.size ≤ q → A q := fun q h => by rw [← hAe]; exact Or.inr h
  have hI : kI D A s.heap (kwM h ad cI cZ u) s.heap [] := ⟨hP, hD, va_S.rf⟩
  have hl := lv_entry ([.ref h, .int (nI k), .int (nI st)]) (n := 3) (Nat.le_of_ble_eq_true rfl)
  rw [lg_entry_eq]
  generalize (lg_sl ([.ref h, .int (nI k), .int (nI st)]) ++ List.replicate (3 - (lg_sl ([.ref h, .int (nI k), .int (nI st)])).length) Slot.unset).toArray = ls at hl ⊢
  have hl : lv_has ls 3 [(0, .ref h), (1, .int (nI k)), (2, .int (nI st))] := hl
  have hn := hall.1.2.1
  have hrw := hall.2.2 k hk
  rcases (show st = 0 ∨ st = 1 ∨ st = 2 ∨ st = 3 ∨ st = 4 ∨ st = 5 by omega) with rfl | rfl | rfl | rfl | rfl | rfl
  · skip
    refine lv_iload_n hx hb d1_from_0 rfl (lv_at hl 2 rfl) ?_
    refine lv_if_ne (tgt := 13) hx hb d1_from_1 (by decide) (fun hc => ?_) (fun hc => ?_)
    · exact absurd (by decide) hc
    · skip
      refine lv_aload_n hx hb d1_from_4 rfl (lv_at hl 0 rfl) ?_
      refine kM_g8 hx hb hB hown hK hI d1_from_5 ?_
      refine lv_iload_n hx hb d1_from_8 rfl (lv_at hl 1 rfl) ?_
      refine kM_l7 (v := nI (mt_tm P k).1) hx hb hK hI k (by omega) (rfl) (hrw.1) d1_from_9 ?_
      refine lv_goto (tgt := 77) hx hb d1_from_10 (by decide) ?_
      exact kret_i (x := u) (wf := kwM h ad cI cZ) hx hb hr hlocks hK hI (⟨rfl, rfl⟩) d1_from_77
  · skip
    refine lv_iload_n hx hb d1_from_0 rfl (lv_at hl 2 rfl) ?_
    refine lv_if_ne (tgt := 13) hx hb d1_from_1 (by decide) (fun hc => ?_) (fun hc => ?_)
    · skip
      refine lv_iload_n hx hb d1_from_13 rfl (lv_at hl 2 rfl) ?_
      refine lv_iconst (v := nI 1) hx hb d1_from_14 (by decide) ?_
      refine lv_icmp_ne (tgt := 27) hx hb d1_from_15 (by decide) (fun hc => ?_) (fun hc => ?_)
      · exact absurd rfl hc
      · skip
        refine lv_aload_n hx hb d1_from_18 rfl (lv_at hl 0 rfl) ?_
        refine kM_g9 hx hb hB hown hK hI d1_from_19 ?_
        refine lv_iload_n hx hb d1_from_22 rfl (lv_at hl 1 rfl) ?_
        refine kM_l8 (v := nI (mt_tm P k).2.1) hx hb hK hI k (by omega) (rfl) (hrw.2.1) d1_from_23 ?_
        refine lv_goto (tgt := 77) hx hb d1_from_24 (by decide) ?_
        exact kret_i (x := u) (wf := kwM h ad cI cZ) hx hb hr hlocks hK hI (⟨rfl, rfl⟩) d1_from_77
    · exact absurd hc (by decide)
  · skip
    refine lv_iload_n hx hb d1_from_0 rfl (lv_at hl 2 rfl) ?_
    refine lv_if_ne (tgt := 13) hx hb d1_from_1 (by decide) (fun hc => ?_) (fun hc => ?_)
    · skip
      refine lv_iload_n hx hb d1_from_13 rfl (lv_at hl 2 rfl) ?_
      refine lv_iconst (v := nI 1) hx hb d1_from_14 (by decide) ?_
      refine lv_icmp_ne (tgt := 27) hx hb d1_from_15 (by decide) (fun hc => ?_) (fun hc => ?_)
      · skip
        refine lv_iload_n hx hb d1_from_27 rfl (lv_at hl 2 rfl) ?_
        refine lv_iconst (v := nI 2) hx hb d1_from_28 (by decide) ?_
        refine lv_icmp_ne (tgt := 41) hx hb d1_from_29 (by decide) (fun hc => ?_) (fun hc => ?_)
        · exact absurd rfl hc
        · skip
          refine lv_aload_n hx hb d1_from_32 rfl (lv_at hl 0 rfl) ?_
          refine kM_g10 hx hb hB hown hK hI d1_from_33 ?_
          refine lv_iload_n hx hb d1_from_36 rfl (lv_at hl 1 rfl) ?_
          refine kM_l9 (v := nI (mt_tm P k).2.2.1) hx hb hK hI k (by omega) (rfl) (hrw.2.2.1) d1_from_37 ?_
          refine lv_goto (tgt := 77) hx hb d1_from_38 (by decide) ?_
          exact kret_i (x := u) (wf := kwM h ad cI cZ) hx hb hr hlocks hK hI (⟨rfl, rfl⟩) d1_from_77
      · exact absurd hc (by decide)
    · exact absurd hc (by decide)
  · skip
    refine lv_iload_n hx hb d1_from_0 rfl (lv_at hl 2 rfl) ?_
    refine lv_if_ne (tgt := 13) hx hb d1_from_1 (by decide) (fun hc => ?_) (fun hc => ?_)
    · skip
      refine lv_iload_n hx hb d1_from_13 rfl (lv_at hl 2 rfl) ?_
      refine lv_iconst (v := nI 1) hx hb d1_from_14 (by decide) ?_
      refine lv_icmp_ne (tgt := 27) hx hb d1_from_15 (by decide) (fun hc => ?_) (fun hc => ?_)
      · skip
        refine lv_iload_n hx hb d1_from_27 rfl (lv_at hl 2 rfl) ?_
        refine lv_iconst (v := nI 2) hx hb d1_from_28 (by decide) ?_
        refine lv_icmp_ne (tgt := 41) hx hb d1_from_29 (by decide) (fun hc => ?_) (fun hc => ?_)
        · skip
          refine lv_iload_n hx hb d1_from_41 rfl (lv_at hl 2 rfl) ?_
          refine lv_iconst (v := nI 3) hx hb d1_from_42 (by decide) ?_
          refine lv_icmp_ne (tgt := 55) hx hb d1_from_43 (by decide) (fun hc => ?_) (fun hc => ?_)
          · exact absurd rfl hc
          · skip
            refine lv_aload_n hx hb d1_from_46 rfl (lv_at hl 0 rfl) ?_
            refine kM_g11 hx hb hB hown hK hI d1_from_47 ?_
            refine lv_iload_n hx hb d1_from_50 rfl (lv_at hl 1 rfl) ?_
            refine kM_l10 (v := nI (mt_tm P k).2.2.2.1) hx hb hK hI k (by omega) (rfl) (hrw.2.2.2.1) d1_from_51 ?_
            refine lv_goto (tgt := 77) hx hb d1_from_52 (by decide) ?_
            exact kret_i (x := u) (wf := kwM h ad cI cZ) hx hb hr hlocks hK hI (⟨rfl, rfl⟩) d1_from_77
        · exact absurd hc (by decide)
      · exact absurd hc (by decide)
    · exact absurd hc (by decide)
  · skip
    refine lv_iload_n hx hb d1_from_0 rfl (lv_at hl 2 rfl) ?_
    refine lv_if_ne (tgt := 13) hx hb d1_from_1 (by decide) (fun hc => ?_) (fun hc => ?_)
    · skip
      refine lv_iload_n hx hb d1_from_13 rfl (lv_at hl 2 rfl) ?_
      refine lv_iconst (v := nI 1) hx hb d1_from_14 (by decide) ?_
      refine lv_icmp_ne (tgt := 27) hx hb d1_from_15 (by decide) (fun hc => ?_) (fun hc => ?_)
      · skip
        refine lv_iload_n hx hb d1_from_27 rfl (lv_at hl 2 rfl) ?_
        refine lv_iconst (v := nI 2) hx hb d1_from_28 (by decide) ?_
        refine lv_icmp_ne (tgt := 41) hx hb d1_from_29 (by decide) (fun hc => ?_) (fun hc => ?_)
        · skip
          refine lv_iload_n hx hb d1_from_41 rfl (lv_at hl 2 rfl) ?_
          refine lv_iconst (v := nI 3) hx hb d1_from_42 (by decide) ?_
          refine lv_icmp_ne (tgt := 55) hx hb d1_from_43 (by decide) (fun hc => ?_) (fun hc => ?_)
          · skip
            refine lv_iload_n hx hb d1_from_55 rfl (lv_at hl 2 rfl) ?_
            refine lv_iconst (v := nI 4) hx hb d1_from_56 (by decide) ?_
            refine lv_icmp_ne (tgt := 69) hx hb d1_from_57 (by decide) (fun hc => ?_) (fun hc => ?_)
            · exact absurd rfl hc
            · skip
              refine lv_aload_n hx hb d1_from_60 rfl (lv_at hl 0 rfl) ?_
              refine kM_g12 hx hb hB hown hK hI d1_from_61 ?_
              refine lv_iload_n hx hb d1_from_64 rfl (lv_at hl 1 rfl) ?_
              refine kM_l11 (v := nI (mt_tm P k).2.2.2.2) hx hb hK hI k (by omega) (rfl) (hrw.2.2.2.2) d1_from_65 ?_
              refine lv_goto (tgt := 77) hx hb d1_from_66 (by decide) ?_
              exact kret_i (x := u) (wf := kwM h ad cI cZ) hx hb hr hlocks hK hI (⟨rfl, rfl⟩) d1_from_77
          · exact absurd hc (by decide)
        · exact absurd hc (by decide)
      · exact absurd hc (by decide)
    · exact absurd hc (by decide)
  · skip
    refine lv_iload_n hx hb d1_from_0 rfl (lv_at hl 2 rfl) ?_
    refine lv_if_ne (tgt := 13) hx hb d1_from_1 (by decide) (fun hc => ?_) (fun hc => ?_)
    · skip
      refine lv_iload_n hx hb d1_from_13 rfl (lv_at hl 2 rfl) ?_
      refine lv_iconst (v := nI 1) hx hb d1_from_14 (by decide) ?_
      refine lv_icmp_ne (tgt := 27) hx hb d1_from_15 (by decide) (fun hc => ?_) (fun hc => ?_)
      · skip
        refine lv_iload_n hx hb d1_from_27 rfl (lv_at hl 2 rfl) ?_
        refine lv_iconst (v := nI 2) hx hb d1_from_28 (by decide) ?_
        refine lv_icmp_ne (tgt := 41) hx hb d1_from_29 (by decide) (fun hc => ?_) (fun hc => ?_)
        · skip
          refine lv_iload_n hx hb d1_from_41 rfl (lv_at hl 2 rfl) ?_
          refine lv_iconst (v := nI 3) hx hb d1_from_42 (by decide) ?_
          refine lv_icmp_ne (tgt := 55) hx hb d1_from_43 (by decide) (fun hc => ?_) (fun hc => ?_)
          · skip
            refine lv_iload_n hx hb d1_from_55 rfl (lv_at hl 2 rfl) ?_
            refine lv_iconst (v := nI 4) hx hb d1_from_56 (by decide) ?_
            refine lv_icmp_ne (tgt := 69) hx hb d1_from_57 (by decide) (fun hc => ?_) (fun hc => ?_)
            · skip
              refine lv_aload_n hx hb d1_from_69 rfl (lv_at hl 0 rfl) ?_
              refine kM_g12 hx hb hB hown hK hI d1_from_70 ?_
              refine lv_iload_n hx hb d1_from_73 rfl (lv_at hl 1 rfl) ?_
              refine kM_l11 (v := nI (mt_tm P k).2.2.2.2) hx hb hK hI k (by omega) (rfl) (hrw.2.2.2.2) d1_from_74 ?_
              refine lv_iconst (v := nI 1) hx hb d1_from_75 (by decide) ?_
              refine k_iadd (v := nI ((mt_tm P k).2.2.2.2 + 1)) hx hb (nI_add _ _) d1_from_76 ?_
              exact kret_i (x := u) (wf := kwM h ad cI cZ) hx hb hr hlocks hK hI (⟨rfl, rfl⟩) d1_from_77
            · exact absurd hc (by decide)
          · exact absurd hc (by decide)
        · exact absurd hc (by decide)
      · exact absurd hc (by decide)
    · exact absurd hc (by decide)
set_option maxHeartbeats 4000000 in
set_option maxRecDepth 100000 in
theorem C1_when (l : Launch) (D : va_G) (cI cZ cG : ClassId) (h : Nat) (ad : Nat → Nat) (sz : Nat) (u : kU) (P : Nat → kIns) (n : Nat) (hst : mSt P n u) (vk vw : Int32) : kMi l D (kty cI cZ cG) y1_when (.code y1_when c1_when 3 (some .int)) ({ frames := 3, cells := 0, slots := 0, locals := 90 }) [.ref h, .int vk, .int vw] (kwM h ad cI cZ) u sz (fun r x => ∃ c, oW P n vk vw c r ∧ x 12 0 = nI c ∧ mSt P n x) := by
  refine Met.ofW (cc := c1_when) (maxL := 3) (ret := (some .int)) (by decide) rfl ?_
  intro p e s m args below meth c s₁ B hml hv
  obtain ⟨rfl, hsz, hP, hK, hD0, hE, hZ⟩ := hv
  have hx := B.exec
  have hb := B.bytes
  have hr := B.returns
  have hts := atoms_spec (ws := Cond.code y1_when c1_when 3 (some .int) :: kBIG) B.pre
  have hB : ∀ w ∈ kBIG, w.before _ s = true := fun w q => hts w (List.mem_cons_of_mem _ q)
  have hown : s.vm.findClass "StageClockModel" = some m.cls := findClass_of_methodNamed B.named
  have hlocks := B.notSynchronized
  subst hsz
  have hD := hD0.self (sz := s.heap.size)
  generalize hAe : va_A (kwM h ad cI cZ u) s.heap.size = A at hD hZ ⊢
  have hA : ∀ q : Nat, s.heap.size ≤ q → A q := fun q h => by rw [← hAe]; exact Or.inr h
  have hI : kI D A s.heap (kwM h ad cI cZ u) s.heap [] := ⟨hP, hD, va_S.rf⟩
  have hl := lv_entry ([.ref h, .int vk, .int vw]) (n := 3) (Nat.le_of_ble_eq_true rfl)
  rw [lg_entry_eq]
  generalize (lg_sl ([.ref h, .int vk, .int vw]) ++ List.replicate (3 - (lg_sl ([.ref h, .int vk, .int vw])).length) Slot.unset).toArray = ls at hl ⊢
  have hl : lv_has ls 3 [(0, .ref h), (1, .int vk), (2, .int vw)] := hl
  have hin := hst.1
  have hn := hin.2.1
  refine lv_aload_n hx hb d1_when_0 rfl (lv_at hl 0 rfl) ?_
  refine lv_iload_n hx hb d1_when_1 rfl (lv_at hl 2 rfl) ?_
  refine lv_if_lt (tgt := 11) hx hb d1_when_2 (by decide) (fun hc => ?_) (fun hc => ?_)
  · skip
    have hnw : ¬ kIx vw 7 := kIx_neg (by decide) hc
    refine lv_iconst (v := kb true) hx hb d1_when_11 (by decide) ?_
    refine lv_goto (tgt := 16) hx hb d1_when_12 (by decide) ?_
    refine lv_iconst (v := nI 1) hx hb d1_when_16 (by decide) ?_
    refine kcall_i (n := 2) (u := u) (wf := kwM h ad cI cZ) (As := [.int (kb true), .int (nI 1)]) (b := h) (rest := []) hx hb hml hown hB hK hI hA hE hZ (C1_fails l D cI cZ cG h ad s.heap.size u true (nI 1)) (kgV kw_344 kw_346 ks1_fails kw_2 kw_347) (by decide +kernel) ⟨Nat.le_of_ble_eq_true rfl, Nat.le_of_ble_eq_true rfl⟩ (va_recv (q0 := 0) (ci := 1) hK hI.1 rfl rfl) rfl hl.1 (Nat.le_of_ble_eq_true rfl) d1_when_17 ⟨Nat.le_of_ble_eq_true rfl, Nat.le_of_ble_eq_true rfl⟩ rfl (fun ra u1 H locs hq1 hI => ?_)
    obtain ⟨hvu1, hu1⟩ := hq1
    rw [hvu1]
    refine lv_if_eq (tgt := 25) hx hb d1_when_20 (by decide) (fun hc => ?_) (fun hc => ?_)
    · exact absurd hc (by decide)
    · skip
      refine lv_iconst (v := nI 0) hx hb d1_when_23 (by decide) ?_
      exact kret_i (x := u1) (wf := kwM h ad cI cZ) hx hb hr hlocks hK hI (⟨1, Or.inl ⟨rfl, hnw⟩, by rw [hu1]; rfl, by rw [hu1]; exact mSt_err hst⟩) d1_when_24
  · skip
    have f1 := hc
    refine lv_iload_n hx hb d1_when_5 rfl (lv_at hl 2 rfl) ?_
    refine lv_bipush (v := nI 6) hx hb d1_when_6 (by decide) ?_
    refine lv_icmp_le (tgt := 15) hx hb d1_when_8 (by decide) (fun hc => ?_) (fun hc => ?_)
    · skip
      have hw7 := kIx_le (n := 6) (by decide) f1 hc
      refine lv_iconst (v := kb false) hx hb d1_when_15 (by decide) ?_
      refine lv_iconst (v := nI 1) hx hb d1_when_16 (by decide) ?_
      refine kcall_i (n := 2) (u := u) (wf := kwM h ad cI cZ) (As := [.int (kb false), .int (nI 1)]) (b := h) (rest := []) hx hb hml hown hB hK hI hA hE hZ (C1_fails l D cI cZ cG h ad s.heap.size u false (nI 1)) (kgV kw_344 kw_346 ks1_fails kw_2 kw_347) (by decide +kernel) ⟨Nat.le_of_ble_eq_true rfl, Nat.le_of_ble_eq_true rfl⟩ (va_recv (q0 := 0) (ci := 1) hK hI.1 rfl rfl) rfl hl.1 (Nat.le_of_ble_eq_true rfl) d1_when_17 ⟨Nat.le_of_ble_eq_true rfl, Nat.le_of_ble_eq_true rfl⟩ rfl (fun ra u1 H locs hq1 hI => ?_)
      obtain ⟨hvu1, hu1⟩ := hq1
      rw [hvu1]
      refine lv_if_eq (tgt := 25) hx hb d1_when_20 (by decide) (fun hc => ?_) (fun hc => ?_)
      · skip
        refine lv_aload_n hx hb d1_when_25 rfl (lv_at hl 0 rfl) ?_
        refine lv_iload_n hx hb d1_when_26 rfl (lv_at hl 1 rfl) ?_
        refine lv_if_lt (tgt := 38) hx hb d1_when_27 (by decide) (fun hc => ?_) (fun hc => ?_)
        · skip
          have hnk : ¬ kIx vk n := kIx_neg (by omega) hc
          refine lv_iconst (v := kb true) hx hb d1_when_38 (by decide) ?_
          refine lv_goto (tgt := 43) hx hb d1_when_39 (by decide) ?_
          refine lv_iconst (v := nI 2) hx hb d1_when_43 (by decide) ?_
          refine kcall_i (n := 2) (u := u1) (wf := kwM h ad cI cZ) (As := [.int (kb true), .int (nI 2)]) (b := h) (rest := []) hx hb hml hown hB hK hI hA hE hZ (C1_fails l D cI cZ cG h ad H.size u1 true (nI 2)) (kgV kw_344 kw_346 ks1_fails kw_2 kw_347) (by decide +kernel) ⟨Nat.le_of_ble_eq_true rfl, Nat.le_of_ble_eq_true rfl⟩ (va_recv (q0 := 0) (ci := 1) hK hI.1 rfl rfl) rfl hl.1 (Nat.le_of_ble_eq_true rfl) d1_when_44 ⟨Nat.le_of_ble_eq_true rfl, Nat.le_of_ble_eq_true rfl⟩ rfl (fun ra u2 H locs hq2 hI => ?_)
          obtain ⟨hvu2, hu2⟩ := hq2
          rw [hvu2]
          refine lv_if_eq (tgt := 52) hx hb d1_when_47 (by decide) (fun hc => ?_) (fun hc => ?_)
          · exact absurd hc (by decide)
          · skip
            refine lv_iconst (v := nI 0) hx hb d1_when_50 (by decide) ?_
            exact kret_i (x := u2) (wf := kwM h ad cI cZ) hx hb hr hlocks hK hI (⟨2, Or.inr (Or.inl ⟨rfl, hw7, hnk⟩), by rw [hu2]; rfl, by rw [hu2, hu1]; exact mSt_err (mSt_err hst)⟩) d1_when_51
        · skip
          have g1 := hc
          refine lv_iload_n hx hb d1_when_30 rfl (lv_at hl 1 rfl) ?_
          refine lv_aload_n hx hb d1_when_31 rfl (lv_at hl 0 rfl) ?_
          refine kM_g13 hx hb hB hown hK hI d1_when_32 ?_
          rw [show u1 13 0 = nI n from by rw [hu1]; exact hst.1.1]
          refine lv_icmp_lt (tgt := 42) hx hb d1_when_35 (by decide) (fun hc => ?_) (fun hc => ?_)
          · skip
            obtain ⟨k, hkn, rfl⟩ := kIx_of (by omega) g1 hc
            refine lv_iconst (v := kb false) hx hb d1_when_42 (by decide) ?_
            refine lv_iconst (v := nI 2) hx hb d1_when_43 (by decide) ?_
            refine kcall_i (n := 2) (u := u1) (wf := kwM h ad cI cZ) (As := [.int (kb false), .int (nI 2)]) (b := h) (rest := []) hx hb hml hown hB hK hI hA hE hZ (C1_fails l D cI cZ cG h ad H.size u1 false (nI 2)) (kgV kw_344 kw_346 ks1_fails kw_2 kw_347) (by decide +kernel) ⟨Nat.le_of_ble_eq_true rfl, Nat.le_of_ble_eq_true rfl⟩ (va_recv (q0 := 0) (ci := 1) hK hI.1 rfl rfl) rfl hl.1 (Nat.le_of_ble_eq_true rfl) d1_when_44 ⟨Nat.le_of_ble_eq_true rfl, Nat.le_of_ble_eq_true rfl⟩ rfl (fun ra u2 H locs hq2 hI => ?_)
            obtain ⟨hvu2, hu2⟩ := hq2
            rw [hvu2]
            refine lv_if_eq (tgt := 52) hx hb d1_when_47 (by decide) (fun hc => ?_) (fun hc => ?_)
            · skip
              refine lv_aload_n hx hb d1_when_52 rfl (lv_at hl 0 rfl) ?_
              have hsu2 : mSt P n u2 := by rw [hu2, hu1]; exact mSt_err (mSt_err hst)
              refine kcall_v (n := 0) (u := u2) (wf := kwM h ad cI cZ) (As := []) (b := h) (rest := []) hx hb hml hown hB hK hI hA hE hZ (C1_reckon l D cI cZ cG h ad H.size u2 P n hsu2) (kgV kw_364 kw_366 ks1_reckon kw_2 kw_367) (by decide +kernel) ⟨Nat.le_of_ble_eq_true rfl, Nat.le_of_ble_eq_true rfl⟩ (va_recv (q0 := 0) (ci := 1) hK hI.1 rfl rfl) rfl hl.1 (Nat.le_of_ble_eq_true rfl) d1_when_53 ⟨Nat.le_of_ble_eq_true rfl, Nat.le_of_ble_eq_true rfl⟩ rfl (fun u9 H locs hq9 hI => ?_)
              obtain ⟨hall, he9⟩ := hq9
              obtain ⟨j, hj, rfl⟩ := hw7
              have hrw := hall.2.2 k hkn
              rcases (show j = 0 ∨ j = 1 ∨ j = 2 ∨ j = 3 ∨ j = 4 ∨ j = 5 ∨ j = 6 by omega) with rfl | rfl | rfl | rfl | rfl | rfl | rfl
              · skip
                refine lv_iload_n hx hb d1_when_56 rfl (lv_at hl 2 rfl) ?_
                refine lv_if_ne (tgt := 69) hx hb d1_when_57 (by decide) (fun hc => ?_) (fun hc => ?_)
                · exact absurd (by decide) hc
                · skip
                  refine lv_aload_n hx hb d1_when_60 rfl (lv_at hl 0 rfl) ?_
                  refine kM_g8 hx hb hB hown hK hI d1_when_61 ?_
                  refine lv_iload_n hx hb d1_when_64 rfl (lv_at hl 1 rfl) ?_
                  refine kM_l7 (v := nI (mt_tm P k).1) hx hb hK hI k (by omega) (rfl) (hrw.1) d1_when_65 ?_
                  refine lv_goto (tgt := 143) hx hb d1_when_66 (by decide) ?_
                  exact kret_i (x := u9) (wf := kwM h ad cI cZ) hx hb hr hlocks hK hI (⟨0, Or.inr (Or.inr ⟨rfl, k, 0, hkn, rfl, by decide, rfl, rfl⟩), by rw [he9, hu2]; rfl, hall.st⟩) d1_when_143
              · skip
                refine lv_iload_n hx hb d1_when_56 rfl (lv_at hl 2 rfl) ?_
                refine lv_if_ne (tgt := 69) hx hb d1_when_57 (by decide) (fun hc => ?_) (fun hc => ?_)
                · skip
                  refine lv_iload_n hx hb d1_when_69 rfl (lv_at hl 2 rfl) ?_
                  refine lv_iconst (v := nI 1) hx hb d1_when_70 (by decide) ?_
                  refine lv_icmp_ne (tgt := 83) hx hb d1_when_71 (by decide) (fun hc => ?_) (fun hc => ?_)
                  · exact absurd rfl hc
                  · skip
                    refine lv_aload_n hx hb d1_when_74 rfl (lv_at hl 0 rfl) ?_
                    refine kM_g9 hx hb hB hown hK hI d1_when_75 ?_
                    refine lv_iload_n hx hb d1_when_78 rfl (lv_at hl 1 rfl) ?_
                    refine kM_l8 (v := nI (mt_tm P k).2.1) hx hb hK hI k (by omega) (rfl) (hrw.2.1) d1_when_79 ?_
                    refine lv_goto (tgt := 143) hx hb d1_when_80 (by decide) ?_
                    exact kret_i (x := u9) (wf := kwM h ad cI cZ) hx hb hr hlocks hK hI (⟨0, Or.inr (Or.inr ⟨rfl, k, 1, hkn, rfl, by decide, rfl, rfl⟩), by rw [he9, hu2]; rfl, hall.st⟩) d1_when_143
                · exact absurd hc (by decide)
              · skip
                refine lv_iload_n hx hb d1_when_56 rfl (lv_at hl 2 rfl) ?_
                refine lv_if_ne (tgt := 69) hx hb d1_when_57 (by decide) (fun hc => ?_) (fun hc => ?_)
                · skip
                  refine lv_iload_n hx hb d1_when_69 rfl (lv_at hl 2 rfl) ?_
                  refine lv_iconst (v := nI 1) hx hb d1_when_70 (by decide) ?_
                  refine lv_icmp_ne (tgt := 83) hx hb d1_when_71 (by decide) (fun hc => ?_) (fun hc => ?_)
                  · skip
                    refine lv_iload_n hx hb d1_when_83 rfl (lv_at hl 2 rfl) ?_
                    refine lv_iconst (v := nI 2) hx hb d1_when_84 (by decide) ?_
                    refine lv_icmp_ne (tgt := 97) hx hb d1_when_85 (by decide) (fun hc => ?_) (fun hc => ?_)
                    · exact absurd rfl hc
                    · skip
                      refine lv_aload_n hx hb d1_when_88 rfl (lv_at hl 0 rfl) ?_
                      refine kM_g10 hx hb hB hown hK hI d1_when_89 ?_
                      refine lv_iload_n hx hb d1_when_92 rfl (lv_at hl 1 rfl) ?_
                      refine kM_l9 (v := nI (mt_tm P k).2.2.1) hx hb hK hI k (by omega) (rfl) (hrw.2.2.1) d1_when_93 ?_
                      refine lv_goto (tgt := 143) hx hb d1_when_94 (by decide) ?_
                      exact kret_i (x := u9) (wf := kwM h ad cI cZ) hx hb hr hlocks hK hI (⟨0, Or.inr (Or.inr ⟨rfl, k, 2, hkn, rfl, by decide, rfl, rfl⟩), by rw [he9, hu2]; rfl, hall.st⟩) d1_when_143
                  · exact absurd hc (by decide)
                · exact absurd hc (by decide)
              · skip
                refine lv_iload_n hx hb d1_when_56 rfl (lv_at hl 2 rfl) ?_
                refine lv_if_ne (tgt := 69) hx hb d1_when_57 (by decide) (fun hc => ?_) (fun hc => ?_)
                · skip
                  refine lv_iload_n hx hb d1_when_69 rfl (lv_at hl 2 rfl) ?_
                  refine lv_iconst (v := nI 1) hx hb d1_when_70 (by decide) ?_
                  refine lv_icmp_ne (tgt := 83) hx hb d1_when_71 (by decide) (fun hc => ?_) (fun hc => ?_)
                  · skip
                    refine lv_iload_n hx hb d1_when_83 rfl (lv_at hl 2 rfl) ?_
                    refine lv_iconst (v := nI 2) hx hb d1_when_84 (by decide) ?_
                    refine lv_icmp_ne (tgt := 97) hx hb d1_when_85 (by decide) (fun hc => ?_) (fun hc => ?_)
                    · skip
                      refine lv_iload_n hx hb d1_when_97 rfl (lv_at hl 2 rfl) ?_
                      refine lv_iconst (v := nI 3) hx hb d1_when_98 (by decide) ?_
                      refine lv_icmp_ne (tgt := 111) hx hb d1_when_99 (by decide) (fun hc => ?_) (fun hc => ?_)
                      · exact absurd rfl hc
                      · skip
                        refine lv_aload_n hx hb d1_when_102 rfl (lv_at hl 0 rfl) ?_
                        refine kM_g11 hx hb hB hown hK hI d1_when_103 ?_
                        refine lv_iload_n hx hb d1_when_106 rfl (lv_at hl 1 rfl) ?_
                        refine kM_l10 (v := nI (mt_tm P k).2.2.2.1) hx hb hK hI k (by omega) (rfl) (hrw.2.2.2.1) d1_when_107 ?_
                        refine lv_goto (tgt := 143) hx hb d1_when_108 (by decide) ?_
                        exact kret_i (x := u9) (wf := kwM h ad cI cZ) hx hb hr hlocks hK hI (⟨0, Or.inr (Or.inr ⟨rfl, k, 3, hkn, rfl, by decide, rfl, rfl⟩), by rw [he9, hu2]; rfl, hall.st⟩) d1_when_143
                    · exact absurd hc (by decide)
                  · exact absurd hc (by decide)
                · exact absurd hc (by decide)
              · skip
                refine lv_iload_n hx hb d1_when_56 rfl (lv_at hl 2 rfl) ?_
                refine lv_if_ne (tgt := 69) hx hb d1_when_57 (by decide) (fun hc => ?_) (fun hc => ?_)
                · skip
                  refine lv_iload_n hx hb d1_when_69 rfl (lv_at hl 2 rfl) ?_
                  refine lv_iconst (v := nI 1) hx hb d1_when_70 (by decide) ?_
                  refine lv_icmp_ne (tgt := 83) hx hb d1_when_71 (by decide) (fun hc => ?_) (fun hc => ?_)
                  · skip
                    refine lv_iload_n hx hb d1_when_83 rfl (lv_at hl 2 rfl) ?_
                    refine lv_iconst (v := nI 2) hx hb d1_when_84 (by decide) ?_
                    refine lv_icmp_ne (tgt := 97) hx hb d1_when_85 (by decide) (fun hc => ?_) (fun hc => ?_)
                    · skip
                      refine lv_iload_n hx hb d1_when_97 rfl (lv_at hl 2 rfl) ?_
                      refine lv_iconst (v := nI 3) hx hb d1_when_98 (by decide) ?_
                      refine lv_icmp_ne (tgt := 111) hx hb d1_when_99 (by decide) (fun hc => ?_) (fun hc => ?_)
                      · skip
                        refine lv_iload_n hx hb d1_when_111 rfl (lv_at hl 2 rfl) ?_
                        refine lv_iconst (v := nI 4) hx hb d1_when_112 (by decide) ?_
                        refine lv_icmp_ne (tgt := 125) hx hb d1_when_113 (by decide) (fun hc => ?_) (fun hc => ?_)
                        · exact absurd rfl hc
                        · skip
                          refine lv_aload_n hx hb d1_when_116 rfl (lv_at hl 0 rfl) ?_
                          refine kM_g12 hx hb hB hown hK hI d1_when_117 ?_
                          refine lv_iload_n hx hb d1_when_120 rfl (lv_at hl 1 rfl) ?_
                          refine kM_l11 (v := nI (mt_tm P k).2.2.2.2) hx hb hK hI k (by omega) (rfl) (hrw.2.2.2.2) d1_when_121 ?_
                          refine lv_goto (tgt := 143) hx hb d1_when_122 (by decide) ?_
                          exact kret_i (x := u9) (wf := kwM h ad cI cZ) hx hb hr hlocks hK hI (⟨0, Or.inr (Or.inr ⟨rfl, k, 4, hkn, rfl, by decide, rfl, rfl⟩), by rw [he9, hu2]; rfl, hall.st⟩) d1_when_143
                      · exact absurd hc (by decide)
                    · exact absurd hc (by decide)
                  · exact absurd hc (by decide)
                · exact absurd hc (by decide)
              · skip
                refine lv_iload_n hx hb d1_when_56 rfl (lv_at hl 2 rfl) ?_
                refine lv_if_ne (tgt := 69) hx hb d1_when_57 (by decide) (fun hc => ?_) (fun hc => ?_)
                · skip
                  refine lv_iload_n hx hb d1_when_69 rfl (lv_at hl 2 rfl) ?_
                  refine lv_iconst (v := nI 1) hx hb d1_when_70 (by decide) ?_
                  refine lv_icmp_ne (tgt := 83) hx hb d1_when_71 (by decide) (fun hc => ?_) (fun hc => ?_)
                  · skip
                    refine lv_iload_n hx hb d1_when_83 rfl (lv_at hl 2 rfl) ?_
                    refine lv_iconst (v := nI 2) hx hb d1_when_84 (by decide) ?_
                    refine lv_icmp_ne (tgt := 97) hx hb d1_when_85 (by decide) (fun hc => ?_) (fun hc => ?_)
                    · skip
                      refine lv_iload_n hx hb d1_when_97 rfl (lv_at hl 2 rfl) ?_
                      refine lv_iconst (v := nI 3) hx hb d1_when_98 (by decide) ?_
                      refine lv_icmp_ne (tgt := 111) hx hb d1_when_99 (by decide) (fun hc => ?_) (fun hc => ?_)
                      · skip
                        refine lv_iload_n hx hb d1_when_111 rfl (lv_at hl 2 rfl) ?_
                        refine lv_iconst (v := nI 4) hx hb d1_when_112 (by decide) ?_
                        refine lv_icmp_ne (tgt := 125) hx hb d1_when_113 (by decide) (fun hc => ?_) (fun hc => ?_)
                        · skip
                          refine lv_iload_n hx hb d1_when_125 rfl (lv_at hl 2 rfl) ?_
                          refine lv_iconst (v := nI 5) hx hb d1_when_126 (by decide) ?_
                          refine lv_icmp_ne (tgt := 138) hx hb d1_when_127 (by decide) (fun hc => ?_) (fun hc => ?_)
                          · exact absurd rfl hc
                          · skip
                            refine lv_aload_n hx hb d1_when_130 rfl (lv_at hl 0 rfl) ?_
                            refine lv_iload_n hx hb d1_when_131 rfl (lv_at hl 1 rfl) ?_
                            refine kcall_i (n := 1) (u := u9) (wf := kwM h ad cI cZ) (As := [.int (nI k)]) (b := h) (rest := []) hx hb hml hown hB hK hI hA hE hZ (C1_xe l D cI cZ cG h ad H.size u9 k _ _ (by omega) hrw.2.2.1 (hall.1.2.2 k hkn).2.1 (hall.1.2.2 k hkn).1.1) (kgV kw_368 kw_370 ks1_xe kw_2 kw_371) (by decide +kernel) ⟨Nat.le_of_ble_eq_true rfl, Nat.le_of_ble_eq_true rfl⟩ (va_recv (q0 := 0) (ci := 1) hK hI.1 rfl rfl) rfl hl.1 (Nat.le_of_ble_eq_true rfl) d1_when_132 ⟨Nat.le_of_ble_eq_true rfl, Nat.le_of_ble_eq_true rfl⟩ rfl (fun ra xa H locs hq hI => ?_)
                            obtain ⟨hv, hxu⟩ := hq
                            rw [hxu] at hI
                            rw [hv]
                            refine lv_goto (tgt := 143) hx hb d1_when_135 (by decide) ?_
                            exact kret_i (x := u9) (wf := kwM h ad cI cZ) hx hb hr hlocks hK hI (⟨0, Or.inr (Or.inr ⟨rfl, k, 5, hkn, rfl, by decide, rfl, rfl⟩), by rw [he9, hu2]; rfl, hall.st⟩) d1_when_143
                        · exact absurd hc (by decide)
                      · exact absurd hc (by decide)
                    · exact absurd hc (by decide)
                  · exact absurd hc (by decide)
                · exact absurd hc (by decide)
              · skip
                refine lv_iload_n hx hb d1_when_56 rfl (lv_at hl 2 rfl) ?_
                refine lv_if_ne (tgt := 69) hx hb d1_when_57 (by decide) (fun hc => ?_) (fun hc => ?_)
                · skip
                  refine lv_iload_n hx hb d1_when_69 rfl (lv_at hl 2 rfl) ?_
                  refine lv_iconst (v := nI 1) hx hb d1_when_70 (by decide) ?_
                  refine lv_icmp_ne (tgt := 83) hx hb d1_when_71 (by decide) (fun hc => ?_) (fun hc => ?_)
                  · skip
                    refine lv_iload_n hx hb d1_when_83 rfl (lv_at hl 2 rfl) ?_
                    refine lv_iconst (v := nI 2) hx hb d1_when_84 (by decide) ?_
                    refine lv_icmp_ne (tgt := 97) hx hb d1_when_85 (by decide) (fun hc => ?_) (fun hc => ?_)
                    · skip
                      refine lv_iload_n hx hb d1_when_97 rfl (lv_at hl 2 rfl) ?_
                      refine lv_iconst (v := nI 3) hx hb d1_when_98 (by decide) ?_
                      refine lv_icmp_ne (tgt := 111) hx hb d1_when_99 (by decide) (fun hc => ?_) (fun hc => ?_)
                      · skip
                        refine lv_iload_n hx hb d1_when_111 rfl (lv_at hl 2 rfl) ?_
                        refine lv_iconst (v := nI 4) hx hb d1_when_112 (by decide) ?_
                        refine lv_icmp_ne (tgt := 125) hx hb d1_when_113 (by decide) (fun hc => ?_) (fun hc => ?_)
                        · skip
                          refine lv_iload_n hx hb d1_when_125 rfl (lv_at hl 2 rfl) ?_
                          refine lv_iconst (v := nI 5) hx hb d1_when_126 (by decide) ?_
                          refine lv_icmp_ne (tgt := 138) hx hb d1_when_127 (by decide) (fun hc => ?_) (fun hc => ?_)
                          · skip
                            refine lv_aload_n hx hb d1_when_138 rfl (lv_at hl 0 rfl) ?_
                            refine lv_iload_n hx hb d1_when_139 rfl (lv_at hl 1 rfl) ?_
                            refine kcall_i (n := 1) (u := u9) (wf := kwM h ad cI cZ) (As := [.int (nI k)]) (b := h) (rest := []) hx hb hml hown hB hK hI hA hE hZ (C1_me l D cI cZ cG h ad H.size u9 k _ _ (by omega) hrw.2.2.2.1 (hall.1.2.2 k hkn).2.2.2.2.2.1) (kgV kw_383 kw_385 ks1_me kw_2 kw_386) (by decide +kernel) ⟨Nat.le_of_ble_eq_true rfl, Nat.le_of_ble_eq_true rfl⟩ (va_recv (q0 := 0) (ci := 1) hK hI.1 rfl rfl) rfl hl.1 (Nat.le_of_ble_eq_true rfl) d1_when_140 ⟨Nat.le_of_ble_eq_true rfl, Nat.le_of_ble_eq_true rfl⟩ rfl (fun ra xa H locs hq hI => ?_)
                            obtain ⟨hv, hxu⟩ := hq
                            rw [hxu] at hI
                            rw [hv]
                            exact kret_i (x := u9) (wf := kwM h ad cI cZ) hx hb hr hlocks hK hI (⟨0, Or.inr (Or.inr ⟨rfl, k, 6, hkn, rfl, by decide, rfl, rfl⟩), by rw [he9, hu2]; rfl, hall.st⟩) d1_when_143
                          · exact absurd hc (by decide)
                        · exact absurd hc (by decide)
                      · exact absurd hc (by decide)
                    · exact absurd hc (by decide)
                  · exact absurd hc (by decide)
                · exact absurd hc (by decide)
            · exact absurd rfl hc
          · skip
            have hnk : ¬ kIx vk n := kIx_ge (by omega) hc
            refine lv_iconst (v := kb true) hx hb d1_when_38 (by decide) ?_
            refine lv_goto (tgt := 43) hx hb d1_when_39 (by decide) ?_
            refine lv_iconst (v := nI 2) hx hb d1_when_43 (by decide) ?_
            refine kcall_i (n := 2) (u := u1) (wf := kwM h ad cI cZ) (As := [.int (kb true), .int (nI 2)]) (b := h) (rest := []) hx hb hml hown hB hK hI hA hE hZ (C1_fails l D cI cZ cG h ad H.size u1 true (nI 2)) (kgV kw_344 kw_346 ks1_fails kw_2 kw_347) (by decide +kernel) ⟨Nat.le_of_ble_eq_true rfl, Nat.le_of_ble_eq_true rfl⟩ (va_recv (q0 := 0) (ci := 1) hK hI.1 rfl rfl) rfl hl.1 (Nat.le_of_ble_eq_true rfl) d1_when_44 ⟨Nat.le_of_ble_eq_true rfl, Nat.le_of_ble_eq_true rfl⟩ rfl (fun ra u2 H locs hq2 hI => ?_)
            obtain ⟨hvu2, hu2⟩ := hq2
            rw [hvu2]
            refine lv_if_eq (tgt := 52) hx hb d1_when_47 (by decide) (fun hc => ?_) (fun hc => ?_)
            · exact absurd hc (by decide)
            · skip
              refine lv_iconst (v := nI 0) hx hb d1_when_50 (by decide) ?_
              exact kret_i (x := u2) (wf := kwM h ad cI cZ) hx hb hr hlocks hK hI (⟨2, Or.inr (Or.inl ⟨rfl, hw7, hnk⟩), by rw [hu2]; rfl, by rw [hu2, hu1]; exact mSt_err (mSt_err hst)⟩) d1_when_51
      · exact absurd rfl hc
    · skip
      have hnw : ¬ kIx vw 7 := kIx_gt (n := 6) (by decide) hc
      refine lv_iconst (v := kb true) hx hb d1_when_11 (by decide) ?_
      refine lv_goto (tgt := 16) hx hb d1_when_12 (by decide) ?_
      refine lv_iconst (v := nI 1) hx hb d1_when_16 (by decide) ?_
      refine kcall_i (n := 2) (u := u) (wf := kwM h ad cI cZ) (As := [.int (kb true), .int (nI 1)]) (b := h) (rest := []) hx hb hml hown hB hK hI hA hE hZ (C1_fails l D cI cZ cG h ad s.heap.size u true (nI 1)) (kgV kw_344 kw_346 ks1_fails kw_2 kw_347) (by decide +kernel) ⟨Nat.le_of_ble_eq_true rfl, Nat.le_of_ble_eq_true rfl⟩ (va_recv (q0 := 0) (ci := 1) hK hI.1 rfl rfl) rfl hl.1 (Nat.le_of_ble_eq_true rfl) d1_when_17 ⟨Nat.le_of_ble_eq_true rfl, Nat.le_of_ble_eq_true rfl⟩ rfl (fun ra u1 H locs hq1 hI => ?_)
      obtain ⟨hvu1, hu1⟩ := hq1
      rw [hvu1]
      refine lv_if_eq (tgt := 25) hx hb d1_when_20 (by decide) (fun hc => ?_) (fun hc => ?_)
      · exact absurd hc (by decide)
      · skip
        refine lv_iconst (v := nI 0) hx hb d1_when_23 (by decide) ?_
        exact kret_i (x := u1) (wf := kwM h ad cI cZ) hx hb hr hlocks hK hI (⟨1, Or.inl ⟨rfl, hnw⟩, by rw [hu1]; rfl, by rw [hu1]; exact mSt_err hst⟩) d1_when_24
set_option maxHeartbeats 4000000 in
set_option maxRecDepth 100000 in
theorem C1_held (l : Launch) (D : va_G) (cI cZ cG : ClassId) (h : Nat) (ad : Nat → Nat) (sz : Nat) (u : kU) (P : Nat → kIns) (n : Nat) (hst : mSt P n u) (vk : Int32) : kMi l D (kty cI cZ cG) y1_held (.code y1_held c1_held 2 (some .int)) ({ frames := 3, cells := 0, slots := 0, locals := 90 }) [.ref h, .int vk] (kwM h ad cI cZ) u sz (fun r x => ∃ c, oH P n vk c r ∧ x 12 0 = nI c ∧ mSt P n x) := by
  refine Met.ofW (cc := c1_held) (maxL := 2) (ret := (some .int)) (by decide) rfl ?_
  intro p e s m args below meth c s₁ B hml hv
  obtain ⟨rfl, hsz, hP, hK, hD0, hE, hZ⟩ := hv
  have hx := B.exec
  have hb := B.bytes
  have hr := B.returns
  have hts := atoms_spec (ws := Cond.code y1_held c1_held 2 (some .int) :: kBIG) B.pre
  have hB : ∀ w ∈ kBIG, w.before _ s = true := fun w q => hts w (List.mem_cons_of_mem _ q)
  have hown : s.vm.findClass "StageClockModel" = some m.cls := findClass_of_methodNamed B.named
  have hlocks := B.notSynchronized
  subst hsz
  have hD := hD0.self (sz := s.heap.size)
  generalize hAe : va_A (kwM h ad cI cZ u) s.heap.size = A at hD hZ ⊢
  have hA : ∀ q : Nat, s.heap.size ≤ q → A q := fun q h => by rw [← hAe]; exact Or.inr h
  have hI : kI D A s.heap (kwM h ad cI cZ u) s.heap [] := ⟨hP, hD, va_S.rf⟩
  have hl := lv_entry ([.ref h, .int vk]) (n := 2) (Nat.le_of_ble_eq_true rfl)
  rw [lg_entry_eq]
  generalize (lg_sl ([.ref h, .int vk]) ++ List.replicate (2 - (lg_sl ([.ref h, .int vk])).length) Slot.unset).toArray = ls at hl ⊢
  have hl : lv_has ls 2 [(0, .ref h), (1, .int vk)] := hl
  have hin := hst.1
  have hn := hin.2.1
  refine lv_aload_n hx hb d1_held_0 rfl (lv_at hl 0 rfl) ?_
  refine lv_iload_n hx hb d1_held_1 rfl (lv_at hl 1 rfl) ?_
  refine lv_if_lt (tgt := 13) hx hb d1_held_2 (by decide) (fun hc => ?_) (fun hc => ?_)
  · skip
    have hnk : ¬ kIx vk n := kIx_neg (by omega) hc
    refine lv_iconst (v := kb true) hx hb d1_held_13 (by decide) ?_
    refine lv_goto (tgt := 18) hx hb d1_held_14 (by decide) ?_
    refine lv_iconst (v := nI 1) hx hb d1_held_18 (by decide) ?_
    refine kcall_i (n := 2) (u := u) (wf := kwM h ad cI cZ) (As := [.int (kb true), .int (nI 1)]) (b := h) (rest := []) hx hb hml hown hB hK hI hA hE hZ (C1_fails l D cI cZ cG h ad s.heap.size u true (nI 1)) (kgV kw_344 kw_346 ks1_fails kw_2 kw_347) (by decide +kernel) ⟨Nat.le_of_ble_eq_true rfl, Nat.le_of_ble_eq_true rfl⟩ (va_recv (q0 := 0) (ci := 1) hK hI.1 rfl rfl) rfl hl.1 (Nat.le_of_ble_eq_true rfl) d1_held_19 ⟨Nat.le_of_ble_eq_true rfl, Nat.le_of_ble_eq_true rfl⟩ rfl (fun ra u1 H locs hq1 hI => ?_)
    obtain ⟨hvu1, hu1⟩ := hq1
    rw [hvu1]
    refine lv_if_eq (tgt := 27) hx hb d1_held_22 (by decide) (fun hc => ?_) (fun hc => ?_)
    · exact absurd hc (by decide)
    · skip
      refine lv_iconst (v := nI 0) hx hb d1_held_25 (by decide) ?_
      exact kret_i (x := u1) (wf := kwM h ad cI cZ) hx hb hr hlocks hK hI (⟨1, Or.inl ⟨rfl, hnk⟩, by rw [hu1]; rfl, by rw [hu1]; exact mSt_err hst⟩) d1_held_26
  · skip
    have g1 := hc
    refine lv_iload_n hx hb d1_held_5 rfl (lv_at hl 1 rfl) ?_
    refine lv_aload_n hx hb d1_held_6 rfl (lv_at hl 0 rfl) ?_
    refine kM_g13 hx hb hB hown hK hI d1_held_7 ?_
    rw [show u 13 0 = nI n from hin.1]
    refine lv_icmp_lt (tgt := 17) hx hb d1_held_10 (by decide) (fun hc => ?_) (fun hc => ?_)
    · skip
      obtain ⟨k, hkn, rfl⟩ := kIx_of (by omega) g1 hc
      refine lv_iconst (v := kb false) hx hb d1_held_17 (by decide) ?_
      refine lv_iconst (v := nI 1) hx hb d1_held_18 (by decide) ?_
      refine kcall_i (n := 2) (u := u) (wf := kwM h ad cI cZ) (As := [.int (kb false), .int (nI 1)]) (b := h) (rest := []) hx hb hml hown hB hK hI hA hE hZ (C1_fails l D cI cZ cG h ad s.heap.size u false (nI 1)) (kgV kw_344 kw_346 ks1_fails kw_2 kw_347) (by decide +kernel) ⟨Nat.le_of_ble_eq_true rfl, Nat.le_of_ble_eq_true rfl⟩ (va_recv (q0 := 0) (ci := 1) hK hI.1 rfl rfl) rfl hl.1 (Nat.le_of_ble_eq_true rfl) d1_held_19 ⟨Nat.le_of_ble_eq_true rfl, Nat.le_of_ble_eq_true rfl⟩ rfl (fun ra u1 H locs hq1 hI => ?_)
      obtain ⟨hvu1, hu1⟩ := hq1
      rw [hvu1]
      refine lv_if_eq (tgt := 27) hx hb d1_held_22 (by decide) (fun hc => ?_) (fun hc => ?_)
      · skip
        refine lv_aload_n hx hb d1_held_27 rfl (lv_at hl 0 rfl) ?_
        have hsu1 : mSt P n u1 := by rw [hu1]; exact mSt_err hst
        refine kcall_v (n := 0) (u := u1) (wf := kwM h ad cI cZ) (As := []) (b := h) (rest := []) hx hb hml hown hB hK hI hA hE hZ (C1_reckon l D cI cZ cG h ad H.size u1 P n hsu1) (kgV kw_364 kw_366 ks1_reckon kw_2 kw_367) (by decide +kernel) ⟨Nat.le_of_ble_eq_true rfl, Nat.le_of_ble_eq_true rfl⟩ (va_recv (q0 := 0) (ci := 1) hK hI.1 rfl rfl) rfl hl.1 (Nat.le_of_ble_eq_true rfl) d1_held_28 ⟨Nat.le_of_ble_eq_true rfl, Nat.le_of_ble_eq_true rfl⟩ rfl (fun u9 H locs hq9 hI => ?_)
        obtain ⟨hall, he9⟩ := hq9
        refine lv_aload_n hx hb d1_held_31 rfl (lv_at hl 0 rfl) ?_
        refine kM_g10 hx hb hB hown hK hI d1_held_32 ?_
        refine lv_iload_n hx hb d1_held_35 rfl (lv_at hl 1 rfl) ?_
        have hge := mt_X_ge P k
        refine kM_l9 (v := nI (mt_tm P k).2.2.1) hx hb hK hI k (by omega) (rfl) ((hall.2.2 k hkn).2.2.1) d1_held_36 ?_
        refine lv_aload_n hx hb d1_held_37 rfl (lv_at hl 0 rfl) ?_
        refine kM_g9 hx hb hB hown hK hI d1_held_38 ?_
        refine lv_iload_n hx hb d1_held_41 rfl (lv_at hl 1 rfl) ?_
        refine kM_l8 (v := nI (mt_tm P k).2.1) hx hb hK hI k (by omega) (rfl) ((hall.2.2 k hkn).2.1) d1_held_42 ?_
        refine k_isub (v := nI ((mt_tm P k).2.2.1 - (mt_tm P k).2.1)) hx hb (pk_sub (by omega)) d1_held_43 ?_
        refine lv_iconst (v := nI 1) hx hb d1_held_44 (by decide) ?_
        refine k_isub (v := nI ((mt_tm P k).2.2.1 - ((mt_tm P k).2.1 + 1))) hx hb ((pk_sub (by omega)).trans (by rw [Nat.sub_sub])) d1_held_45 ?_
        exact kret_i (x := u9) (wf := kwM h ad cI cZ) hx hb hr hlocks hK hI (⟨0, Or.inr ⟨rfl, k, hkn, rfl, rfl⟩, by rw [he9, hu1]; rfl, hall.st⟩) d1_held_46
      · exact absurd rfl hc
    · skip
      have hnk : ¬ kIx vk n := kIx_ge (by omega) hc
      refine lv_iconst (v := kb true) hx hb d1_held_13 (by decide) ?_
      refine lv_goto (tgt := 18) hx hb d1_held_14 (by decide) ?_
      refine lv_iconst (v := nI 1) hx hb d1_held_18 (by decide) ?_
      refine kcall_i (n := 2) (u := u) (wf := kwM h ad cI cZ) (As := [.int (kb true), .int (nI 1)]) (b := h) (rest := []) hx hb hml hown hB hK hI hA hE hZ (C1_fails l D cI cZ cG h ad s.heap.size u true (nI 1)) (kgV kw_344 kw_346 ks1_fails kw_2 kw_347) (by decide +kernel) ⟨Nat.le_of_ble_eq_true rfl, Nat.le_of_ble_eq_true rfl⟩ (va_recv (q0 := 0) (ci := 1) hK hI.1 rfl rfl) rfl hl.1 (Nat.le_of_ble_eq_true rfl) d1_held_19 ⟨Nat.le_of_ble_eq_true rfl, Nat.le_of_ble_eq_true rfl⟩ rfl (fun ra u1 H locs hq1 hI => ?_)
      obtain ⟨hvu1, hu1⟩ := hq1
      rw [hvu1]
      refine lv_if_eq (tgt := 27) hx hb d1_held_22 (by decide) (fun hc => ?_) (fun hc => ?_)
      · exact absurd hc (by decide)
      · skip
        refine lv_iconst (v := nI 0) hx hb d1_held_25 (by decide) ?_
        exact kret_i (x := u1) (wf := kwM h ad cI cZ) hx hb hr hlocks hK hI (⟨1, Or.inl ⟨rfl, hnk⟩, by rw [hu1]; rfl, by rw [hu1]; exact mSt_err hst⟩) d1_held_26
set_option maxHeartbeats 4000000 in
set_option maxRecDepth 100000 in
theorem C1_giver (l : Launch) (D : va_G) (cI cZ cG : ClassId) (h : Nat) (ad : Nat → Nat) (sz : Nat) (u : kU) (P : Nat → kIns) (n : Nat) (hst : mSt P n u) (vk vr : Int32) : kMi l D (kty cI cZ cG) y1_giver (.code y1_giver c1_giver 3 (some .int)) ({ frames := 1, cells := 0, slots := 0, locals := 30 }) [.ref h, .int vk, .int vr] (kwM h ad cI cZ) u sz (fun v x => ∃ c, oG P n vk vr c v ∧ x 12 0 = nI c ∧ mSt P n x) := by
  refine Met.ofW (cc := c1_giver) (maxL := 3) (ret := (some .int)) (by decide) rfl ?_
  intro p e s m args below meth c s₁ B hml hv
  obtain ⟨rfl, hsz, hP, hK, hD0, hE, hZ⟩ := hv
  have hx := B.exec
  have hb := B.bytes
  have hr := B.returns
  have hts := atoms_spec (ws := Cond.code y1_giver c1_giver 3 (some .int) :: kBIG) B.pre
  have hB : ∀ w ∈ kBIG, w.before _ s = true := fun w q => hts w (List.mem_cons_of_mem _ q)
  have hown : s.vm.findClass "StageClockModel" = some m.cls := findClass_of_methodNamed B.named
  have hlocks := B.notSynchronized
  subst hsz
  have hD := hD0.self (sz := s.heap.size)
  generalize hAe : va_A (kwM h ad cI cZ u) s.heap.size = A at hD hZ ⊢
  have hA : ∀ q : Nat, s.heap.size ≤ q → A q := fun q h => by rw [← hAe]; exact Or.inr h
  have hI : kI D A s.heap (kwM h ad cI cZ u) s.heap [] := ⟨hP, hD, va_S.rf⟩
  have hl := lv_entry ([.ref h, .int vk, .int vr]) (n := 3) (Nat.le_of_ble_eq_true rfl)
  rw [lg_entry_eq]
  generalize (lg_sl ([.ref h, .int vk, .int vr]) ++ List.replicate (3 - (lg_sl ([.ref h, .int vk, .int vr])).length) Slot.unset).toArray = ls at hl ⊢
  have hl : lv_has ls 3 [(0, .ref h), (1, .int vk), (2, .int vr)] := hl
  have hin := hst.1
  have hn := hin.2.1
  refine lv_aload_n hx hb d1_giver_0 rfl (lv_at hl 0 rfl) ?_
  refine lv_iload_n hx hb d1_giver_1 rfl (lv_at hl 2 rfl) ?_
  refine lv_iconst (v := nI 1) hx hb d1_giver_2 (by decide) ?_
  refine lv_icmp_lt (tgt := 12) hx hb d1_giver_3 (by decide) (fun hc => ?_) (fun hc => ?_)
  · skip
    have hnw : ¬ kReg vr := kReg_lt hc
    refine lv_iconst (v := kb true) hx hb d1_giver_12 (by decide) ?_
    refine lv_goto (tgt := 17) hx hb d1_giver_13 (by decide) ?_
    refine lv_iconst (v := nI 1) hx hb d1_giver_17 (by decide) ?_
    refine kcall_i (n := 2) (u := u) (wf := kwM h ad cI cZ) (As := [.int (kb true), .int (nI 1)]) (b := h) (rest := []) hx hb hml hown hB hK hI hA hE hZ (C1_fails l D cI cZ cG h ad s.heap.size u true (nI 1)) (kgV kw_344 kw_346 ks1_fails kw_2 kw_347) (by decide +kernel) ⟨Nat.le_of_ble_eq_true rfl, Nat.le_of_ble_eq_true rfl⟩ (va_recv (q0 := 0) (ci := 1) hK hI.1 rfl rfl) rfl hl.1 (Nat.le_of_ble_eq_true rfl) d1_giver_18 ⟨Nat.le_of_ble_eq_true rfl, Nat.le_of_ble_eq_true rfl⟩ rfl (fun ra u1 H locs hq1 hI => ?_)
    obtain ⟨hvu1, hu1⟩ := hq1
    rw [hvu1]
    refine lv_if_eq (tgt := 26) hx hb d1_giver_21 (by decide) (fun hc => ?_) (fun hc => ?_)
    · exact absurd hc (by decide)
    · skip
      refine lv_iconst (v := nI 0) hx hb d1_giver_24 (by decide) ?_
      exact kret_i (x := u1) (wf := kwM h ad cI cZ) hx hb hr hlocks hK hI (⟨1, Or.inl ⟨rfl, hnw⟩, by rw [hu1]; rfl, by rw [hu1]; exact mSt_err hst⟩) d1_giver_25
  · skip
    have f1 := hc
    refine lv_iload_n hx hb d1_giver_6 rfl (lv_at hl 2 rfl) ?_
    refine lv_bipush (v := nI 15) hx hb d1_giver_7 (by decide) ?_
    refine lv_icmp_le (tgt := 16) hx hb d1_giver_9 (by decide) (fun hc => ?_) (fun hc => ?_)
    · skip
      have hw7 := kReg_of f1 hc
      refine lv_iconst (v := kb false) hx hb d1_giver_16 (by decide) ?_
      refine lv_iconst (v := nI 1) hx hb d1_giver_17 (by decide) ?_
      refine kcall_i (n := 2) (u := u) (wf := kwM h ad cI cZ) (As := [.int (kb false), .int (nI 1)]) (b := h) (rest := []) hx hb hml hown hB hK hI hA hE hZ (C1_fails l D cI cZ cG h ad s.heap.size u false (nI 1)) (kgV kw_344 kw_346 ks1_fails kw_2 kw_347) (by decide +kernel) ⟨Nat.le_of_ble_eq_true rfl, Nat.le_of_ble_eq_true rfl⟩ (va_recv (q0 := 0) (ci := 1) hK hI.1 rfl rfl) rfl hl.1 (Nat.le_of_ble_eq_true rfl) d1_giver_18 ⟨Nat.le_of_ble_eq_true rfl, Nat.le_of_ble_eq_true rfl⟩ rfl (fun ra u1 H locs hq1 hI => ?_)
      obtain ⟨hvu1, hu1⟩ := hq1
      rw [hvu1]
      refine lv_if_eq (tgt := 26) hx hb d1_giver_21 (by decide) (fun hc => ?_) (fun hc => ?_)
      · skip
        refine lv_aload_n hx hb d1_giver_26 rfl (lv_at hl 0 rfl) ?_
        refine lv_iload_n hx hb d1_giver_27 rfl (lv_at hl 1 rfl) ?_
        refine lv_if_lt (tgt := 39) hx hb d1_giver_28 (by decide) (fun hc => ?_) (fun hc => ?_)
        · skip
          have hnk : ¬ kIx vk n := kIx_neg (by omega) hc
          refine lv_iconst (v := kb true) hx hb d1_giver_39 (by decide) ?_
          refine lv_goto (tgt := 44) hx hb d1_giver_40 (by decide) ?_
          refine lv_iconst (v := nI 2) hx hb d1_giver_44 (by decide) ?_
          refine kcall_i (n := 2) (u := u1) (wf := kwM h ad cI cZ) (As := [.int (kb true), .int (nI 2)]) (b := h) (rest := []) hx hb hml hown hB hK hI hA hE hZ (C1_fails l D cI cZ cG h ad H.size u1 true (nI 2)) (kgV kw_344 kw_346 ks1_fails kw_2 kw_347) (by decide +kernel) ⟨Nat.le_of_ble_eq_true rfl, Nat.le_of_ble_eq_true rfl⟩ (va_recv (q0 := 0) (ci := 1) hK hI.1 rfl rfl) rfl hl.1 (Nat.le_of_ble_eq_true rfl) d1_giver_45 ⟨Nat.le_of_ble_eq_true rfl, Nat.le_of_ble_eq_true rfl⟩ rfl (fun ra u2 H locs hq2 hI => ?_)
          obtain ⟨hvu2, hu2⟩ := hq2
          rw [hvu2]
          refine lv_if_eq (tgt := 53) hx hb d1_giver_48 (by decide) (fun hc => ?_) (fun hc => ?_)
          · exact absurd hc (by decide)
          · skip
            refine lv_iconst (v := nI 0) hx hb d1_giver_51 (by decide) ?_
            exact kret_i (x := u2) (wf := kwM h ad cI cZ) hx hb hr hlocks hK hI (⟨2, Or.inr (Or.inl ⟨rfl, hw7, hnk⟩), by rw [hu2]; rfl, by rw [hu2, hu1]; exact mSt_err (mSt_err hst)⟩) d1_giver_52
        · skip
          have g1 := hc
          refine lv_iload_n hx hb d1_giver_31 rfl (lv_at hl 1 rfl) ?_
          refine lv_aload_n hx hb d1_giver_32 rfl (lv_at hl 0 rfl) ?_
          refine kM_g13 hx hb hB hown hK hI d1_giver_33 ?_
          rw [show u1 13 0 = nI n from by rw [hu1]; exact hst.1.1]
          refine lv_icmp_lt (tgt := 43) hx hb d1_giver_36 (by decide) (fun hc => ?_) (fun hc => ?_)
          · skip
            obtain ⟨k, hkn, rfl⟩ := kIx_of (by omega) g1 hc
            refine lv_iconst (v := kb false) hx hb d1_giver_43 (by decide) ?_
            refine lv_iconst (v := nI 2) hx hb d1_giver_44 (by decide) ?_
            refine kcall_i (n := 2) (u := u1) (wf := kwM h ad cI cZ) (As := [.int (kb false), .int (nI 2)]) (b := h) (rest := []) hx hb hml hown hB hK hI hA hE hZ (C1_fails l D cI cZ cG h ad H.size u1 false (nI 2)) (kgV kw_344 kw_346 ks1_fails kw_2 kw_347) (by decide +kernel) ⟨Nat.le_of_ble_eq_true rfl, Nat.le_of_ble_eq_true rfl⟩ (va_recv (q0 := 0) (ci := 1) hK hI.1 rfl rfl) rfl hl.1 (Nat.le_of_ble_eq_true rfl) d1_giver_45 ⟨Nat.le_of_ble_eq_true rfl, Nat.le_of_ble_eq_true rfl⟩ rfl (fun ra u2 H locs hq2 hI => ?_)
            obtain ⟨hvu2, hu2⟩ := hq2
            rw [hvu2]
            refine lv_if_eq (tgt := 53) hx hb d1_giver_48 (by decide) (fun hc => ?_) (fun hc => ?_)
            · skip
              obtain ⟨r, hr1, hr15, rfl⟩ := hw7
              refine lv_aload_n hx hb d1_giver_53 rfl (lv_at hl 0 rfl) ?_
              refine lv_iload_n hx hb d1_giver_54 rfl (lv_at hl 1 rfl) ?_
              refine lv_iload_n hx hb d1_giver_55 rfl (lv_at hl 2 rfl) ?_
              refine kcall_i (n := 2) (u := u2) (wf := kwM h ad cI cZ) (As := [.int (nI k), .int (nI r)]) (b := h) (rest := []) hx hb hml hown hB hK hI hA hE hZ (C1_before l D cI cZ cG h ad H.size u2 P n (by rw [hu2, hu1]; exact hst.1) k r (by omega) hr15) (kgV kw_379 kw_381 ks1_before kw_2 kw_382) (by decide +kernel) ⟨Nat.le_of_ble_eq_true rfl, Nat.le_of_ble_eq_true rfl⟩ (va_recv (q0 := 0) (ci := 1) hK hI.1 rfl rfl) rfl hl.1 (Nat.le_of_ble_eq_true rfl) d1_giver_56 ⟨Nat.le_of_ble_eq_true rfl, Nat.le_of_ble_eq_true rfl⟩ rfl (fun ra xa H locs hq hI => ?_)
              obtain ⟨hv, hxu⟩ := hq
              rw [hxu] at hI
              rw [hv]
              exact kret_i (x := u2) (wf := kwM h ad cI cZ) hx hb hr hlocks hK hI (⟨0, Or.inr (Or.inr ⟨rfl, k, r, hkn, rfl, hr1, hr15, rfl, rfl⟩), by rw [hu2]; rfl, by rw [hu2, hu1]; exact mSt_err (mSt_err hst)⟩) d1_giver_59
            · exact absurd rfl hc
          · skip
            have hnk : ¬ kIx vk n := kIx_ge (by omega) hc
            refine lv_iconst (v := kb true) hx hb d1_giver_39 (by decide) ?_
            refine lv_goto (tgt := 44) hx hb d1_giver_40 (by decide) ?_
            refine lv_iconst (v := nI 2) hx hb d1_giver_44 (by decide) ?_
            refine kcall_i (n := 2) (u := u1) (wf := kwM h ad cI cZ) (As := [.int (kb true), .int (nI 2)]) (b := h) (rest := []) hx hb hml hown hB hK hI hA hE hZ (C1_fails l D cI cZ cG h ad H.size u1 true (nI 2)) (kgV kw_344 kw_346 ks1_fails kw_2 kw_347) (by decide +kernel) ⟨Nat.le_of_ble_eq_true rfl, Nat.le_of_ble_eq_true rfl⟩ (va_recv (q0 := 0) (ci := 1) hK hI.1 rfl rfl) rfl hl.1 (Nat.le_of_ble_eq_true rfl) d1_giver_45 ⟨Nat.le_of_ble_eq_true rfl, Nat.le_of_ble_eq_true rfl⟩ rfl (fun ra u2 H locs hq2 hI => ?_)
            obtain ⟨hvu2, hu2⟩ := hq2
            rw [hvu2]
            refine lv_if_eq (tgt := 53) hx hb d1_giver_48 (by decide) (fun hc => ?_) (fun hc => ?_)
            · exact absurd hc (by decide)
            · skip
              refine lv_iconst (v := nI 0) hx hb d1_giver_51 (by decide) ?_
              exact kret_i (x := u2) (wf := kwM h ad cI cZ) hx hb hr hlocks hK hI (⟨2, Or.inr (Or.inl ⟨rfl, hw7, hnk⟩), by rw [hu2]; rfl, by rw [hu2, hu1]; exact mSt_err (mSt_err hst)⟩) d1_giver_52
      · exact absurd rfl hc
    · skip
      have hnw : ¬ kReg vr := kReg_gt hc
      refine lv_iconst (v := kb true) hx hb d1_giver_12 (by decide) ?_
      refine lv_goto (tgt := 17) hx hb d1_giver_13 (by decide) ?_
      refine lv_iconst (v := nI 1) hx hb d1_giver_17 (by decide) ?_
      refine kcall_i (n := 2) (u := u) (wf := kwM h ad cI cZ) (As := [.int (kb true), .int (nI 1)]) (b := h) (rest := []) hx hb hml hown hB hK hI hA hE hZ (C1_fails l D cI cZ cG h ad s.heap.size u true (nI 1)) (kgV kw_344 kw_346 ks1_fails kw_2 kw_347) (by decide +kernel) ⟨Nat.le_of_ble_eq_true rfl, Nat.le_of_ble_eq_true rfl⟩ (va_recv (q0 := 0) (ci := 1) hK hI.1 rfl rfl) rfl hl.1 (Nat.le_of_ble_eq_true rfl) d1_giver_18 ⟨Nat.le_of_ble_eq_true rfl, Nat.le_of_ble_eq_true rfl⟩ rfl (fun ra u1 H locs hq1 hI => ?_)
      obtain ⟨hvu1, hu1⟩ := hq1
      rw [hvu1]
      refine lv_if_eq (tgt := 26) hx hb d1_giver_21 (by decide) (fun hc => ?_) (fun hc => ?_)
      · exact absurd hc (by decide)
      · skip
        refine lv_iconst (v := nI 0) hx hb d1_giver_24 (by decide) ?_
        exact kret_i (x := u1) (wf := kwM h ad cI cZ) hx hb hr hlocks hK hI (⟨1, Or.inl ⟨rfl, hnw⟩, by rw [hu1]; rfl, by rw [hu1]; exact mSt_err hst⟩) d1_giver_25
set_option maxHeartbeats 4000000 in
set_option maxRecDepth 100000 in
theorem L1_in {p : Program} {e : Env} {s : State} {m : MethodId} {args : Array Value} {below : List Frame} {meth : Method} {c : Code} {Q : State → Prop} {A : Nat → Prop} (l : Launch) (D : va_G) (cI cZ cG : ClassId) (h : Nat) (ad : Nat → Nat) (u : kU) (P : Nat → kIns) (n : Nat) (hall : mAll P n u) (st : Nat) (hs5 : st < 5) (cy : Int32) (hx : p.tables.exec = Jvm.exec) (hb : c.code = c1_in) (hml : c.maxLocals = 4) (hown : s.vm.findClass "StageClockModel" = some m.cls) (hB : ∀ w ∈ kBIG, w.before args s = true) (hK : va_K D kcl (kty cI cZ cG) s) (hA : ∀ q : Nat, s.heap.size ≤ q → A q) (hE : kE s) (hZ : kZ A s s.heap)
    (kk1 : ∀ (ls : Array Slot) (H : Heap) (locs : List Loc) (i : Nat) (hj : mt_scan (mt_hit P st cy) n 0 = nI i), lv_has ls 4 [(3, .int (nI i)), (0, .ref h), (1, .int (nI st)), (2, .int cy)] → kI D A s.heap (kwM h ad cI cZ u) H locs → W p l e ({ frames := 3, cells := 0, slots := 0, locals := 90 } : Room) s m args below meth c H locs 0 0 Q (F0 m 60 ls []))
    (kk2 : ∀ (ls : Array Slot) (H : Heap) (locs : List Loc) (i : Nat) (hj : mt_scan (mt_hit P st cy) n 0 = -1), lv_has ls 4 [(3, .int (nI i)), (0, .ref h), (1, .int (nI st)), (2, .int cy)] → kI D A s.heap (kwM h ad cI cZ u) H locs → W p l e ({ frames := 3, cells := 0, slots := 0, locals := 90 } : Room) s m args below meth c H locs 0 0 Q (F0 m 68 ls []))
    : ∀ (d : Nat) (ls : Array Slot) (H : Heap) (locs : List Loc) (i : Nat) (hd : i + d = n) (hm : mt_scan (mt_hit P st cy) n 0 = mt_scan (mt_hit P st cy) d i), lv_has ls 4 [(3, .int (nI i)), (0, .ref h), (1, .int (nI st)), (2, .int cy)] → kI D A s.heap (kwM h ad cI cZ u) H locs → W p l e ({ frames := 3, cells := 0, slots := 0, locals := 90 } : Room) s m args below meth c H locs 0 0 Q (F0 m 30 ls []) := by
  have hn := hall.1.2.1
  intro d
  induction d with
  | zero =>
    intro ls H locs i hd hm hl hI
    obtain rfl : i = n := by omega
    refine lv_iload_n hx hb d1_in_30 rfl (lv_at hl 0 rfl) ?_
    refine lv_aload_n hx hb d1_in_31 rfl (lv_at hl 1 rfl) ?_
    refine kM_g13 hx hb hB hown hK hI d1_in_32 ?_
    rw [show u 13 0 = nI i from hall.1.1]
    refine lv_icmp_ge (tgt := 68) hx hb d1_in_35 (by decide) (fun hc => ?_) (fun hc => ?_)
    · skip
      exact kk2 ls H locs _ hm hl hI
    · exact absurd (nI_le (Nat.le_refl _) (by omega)) hc
  | succ d ih =>
    intro ls H locs i hd hm hl hI
    refine lv_iload_n hx hb d1_in_30 rfl (lv_at hl 0 rfl) ?_
    refine lv_aload_n hx hb d1_in_31 rfl (lv_at hl 1 rfl) ?_
    refine kM_g13 hx hb hB hown hK hI d1_in_32 ?_
    rw [show u 13 0 = nI n from hall.1.1]
    refine lv_icmp_ge (tgt := 68) hx hb d1_in_35 (by decide) (fun hc => ?_) (fun hc => ?_)
    · exact absurd hc (nI_ge (by omega) (by omega))
    · skip
      refine lv_iload_n hx hb d1_in_38 rfl (lv_at hl 3 rfl) ?_
      refine lv_aload_n hx hb d1_in_39 rfl (lv_at hl 1 rfl) ?_
      refine lv_iload_n hx hb d1_in_40 rfl (lv_at hl 0 rfl) ?_
      refine lv_iload_n hx hb d1_in_41 rfl (lv_at hl 2 rfl) ?_
      refine kcall_i (n := 2) (u := u) (wf := kwM h ad cI cZ) (As := [.int (nI i), .int (nI st)]) (b := h) (rest := [.int cy]) hx hb hml hown hB hK hI hA hE hZ (C1_from l D cI cZ cG h ad H.size u P n hall i st (by omega) (by omega)) (kgV kw_391 kw_393 ks1_from kw_2 kw_394) (by decide +kernel) ⟨Nat.le_of_ble_eq_true rfl, Nat.le_of_ble_eq_true rfl⟩ (va_recv (q0 := 0) (ci := 1) hK hI.1 rfl rfl) rfl hl.1 (Nat.le_of_ble_eq_true rfl) d1_in_42 ⟨Nat.le_of_ble_eq_true rfl, Nat.le_of_ble_eq_true rfl⟩ rfl (fun ra xa H locs hq hI => ?_)
      obtain ⟨hv, hxu⟩ := hq
      rw [hxu] at hI
      rw [hv]
      refine lv_icmp_lt (tgt := 62) hx hb d1_in_45 (by decide) (fun hc => ?_) (fun hc => ?_)
      · skip
        have hno : mt_hit P st cy i = false := decide_eq_false (fun q => (Int32.not_le.mpr hc) q.1)
        refine lv_iinc (k := 0) (v := nI (i + 1)) hx hb d1_in_62 hl rfl (by rw [show Int32.ofInt 1 = 1 by decide]; exact nI_1 _) (by decide) rfl (fun ls hl => ?_)
        have hl : lv_has ls 4 [(3, .int (nI (i + 1))), (0, .ref h), (1, .int (nI st)), (2, .int cy)] := hl
        refine lv_goto (tgt := 30) hx hb d1_in_65 (by decide) ?_
        exact ih ls H locs (i + 1) (by omega) (hm.trans (if_neg (by rw [hno]; decide))) (lv_sub hl [0, 1, 2, 3] rfl) hI
      · skip
        have hge := Int32.not_lt.mp hc
        refine lv_iload_n hx hb d1_in_48 rfl (lv_at hl 3 rfl) ?_
        refine lv_aload_n hx hb d1_in_49 rfl (lv_at hl 1 rfl) ?_
        refine lv_iload_n hx hb d1_in_50 rfl (lv_at hl 0 rfl) ?_
        refine lv_iload_n hx hb d1_in_51 rfl (lv_at hl 2 rfl) ?_
        refine lv_iconst (v := nI 1) hx hb d1_in_52 (by decide) ?_
        refine k_iadd (v := nI (st + 1)) hx hb (nI_add _ _) d1_in_53 ?_
        refine kcall_i (n := 2) (u := u) (wf := kwM h ad cI cZ) (As := [.int (nI i), .int (nI (st + 1))]) (b := h) (rest := [.int cy]) hx hb hml hown hB hK hI hA hE hZ (C1_from l D cI cZ cG h ad H.size u P n hall i (st + 1) (by omega) (by omega)) (kgV kw_391 kw_393 ks1_from kw_2 kw_394) (by decide +kernel) ⟨Nat.le_of_ble_eq_true rfl, Nat.le_of_ble_eq_true rfl⟩ (va_recv (q0 := 0) (ci := 1) hK hI.1 rfl rfl) rfl hl.1 (Nat.le_of_ble_eq_true rfl) d1_in_54 ⟨Nat.le_of_ble_eq_true rfl, Nat.le_of_ble_eq_true rfl⟩ rfl (fun ra xa H locs hq hI => ?_)
        obtain ⟨hv, hxu⟩ := hq
        rw [hxu] at hI
        rw [hv]
        refine lv_icmp_ge (tgt := 62) hx hb d1_in_57 (by decide) (fun hc => ?_) (fun hc => ?_)
        · skip
          have hno : mt_hit P st cy i = false := decide_eq_false (fun q => (Int32.not_lt.mpr hc) q.2)
          refine lv_iinc (k := 0) (v := nI (i + 1)) hx hb d1_in_62 hl rfl (by rw [show Int32.ofInt 1 = 1 by decide]; exact nI_1 _) (by decide) rfl (fun ls hl => ?_)
          have hl : lv_has ls 4 [(3, .int (nI (i + 1))), (0, .ref h), (1, .int (nI st)), (2, .int cy)] := hl
          refine lv_goto (tgt := 30) hx hb d1_in_65 (by decide) ?_
          exact ih ls H locs (i + 1) (by omega) (hm.trans (if_neg (by rw [hno]; decide))) (lv_sub hl [0, 1, 2, 3] rfl) hI
        · skip
          have hyes : mt_hit P st cy i = true := decide_eq_true ⟨hge, Int32.not_le.mp hc⟩
          exact kk1 ls H locs i (hm.trans (if_pos hyes)) (lv_sub hl [0, 1, 2, 3] rfl) hI
set_option maxHeartbeats 4000000 in
set_option maxRecDepth 100000 in
theorem C1_in (l : Launch) (D : va_G) (cI cZ cG : ClassId) (h : Nat) (ad : Nat → Nat) (sz : Nat) (u : kU) (P : Nat → kIns) (n : Nat) (hst : mSt P n u) (vs cy : Int32) : kMi l D (kty cI cZ cG) y1_in (.code y1_in c1_in 4 (some .int)) ({ frames := 3, cells := 0, slots := 0, locals := 90 }) [.ref h, .int vs, .int cy] (kwM h ad cI cZ) u sz (fun v x => ∃ c, oI P n vs cy c v ∧ x 12 0 = nI c ∧ mSt P n x) := by
  refine Met.ofW (cc := c1_in) (maxL := 4) (ret := (some .int)) (by decide) rfl ?_
  intro p e s m args below meth c s₁ B hml hv
  obtain ⟨rfl, hsz, hP, hK, hD0, hE, hZ⟩ := hv
  have hx := B.exec
  have hb := B.bytes
  have hr := B.returns
  have hts := atoms_spec (ws := Cond.code y1_in c1_in 4 (some .int) :: kBIG) B.pre
  have hB : ∀ w ∈ kBIG, w.before _ s = true := fun w q => hts w (List.mem_cons_of_mem _ q)
  have hown : s.vm.findClass "StageClockModel" = some m.cls := findClass_of_methodNamed B.named
  have hlocks := B.notSynchronized
  subst hsz
  have hD := hD0.self (sz := s.heap.size)
  generalize hAe : va_A (kwM h ad cI cZ u) s.heap.size = A at hD hZ ⊢
  have hA : ∀ q : Nat, s.heap.size ≤ q → A q := fun q h => by rw [← hAe]; exact Or.inr h
  have hI : kI D A s.heap (kwM h ad cI cZ u) s.heap [] := ⟨hP, hD, va_S.rf⟩
  have hl := lv_entry ([.ref h, .int vs, .int cy]) (n := 4) (Nat.le_of_ble_eq_true rfl)
  rw [lg_entry_eq]
  generalize (lg_sl ([.ref h, .int vs, .int cy]) ++ List.replicate (4 - (lg_sl ([.ref h, .int vs, .int cy])).length) Slot.unset).toArray = ls at hl ⊢
  have hl : lv_has ls 4 [(0, .ref h), (1, .int vs), (2, .int cy)] := hl
  have hin := hst.1
  have hn := hin.2.1
  refine lv_aload_n hx hb d1_in_0 rfl (lv_at hl 0 rfl) ?_
  refine lv_iload_n hx hb d1_in_1 rfl (lv_at hl 1 rfl) ?_
  refine lv_if_lt (tgt := 10) hx hb d1_in_2 (by decide) (fun hc => ?_) (fun hc => ?_)
  · skip
    have hnw : ¬ kIx vs 5 := kIx_neg (by decide) hc
    refine lv_iconst (v := kb true) hx hb d1_in_10 (by decide) ?_
    refine lv_goto (tgt := 15) hx hb d1_in_11 (by decide) ?_
    refine lv_iconst (v := nI 1) hx hb d1_in_15 (by decide) ?_
    refine kcall_i (n := 2) (u := u) (wf := kwM h ad cI cZ) (As := [.int (kb true), .int (nI 1)]) (b := h) (rest := []) hx hb hml hown hB hK hI hA hE hZ (C1_fails l D cI cZ cG h ad s.heap.size u true (nI 1)) (kgV kw_344 kw_346 ks1_fails kw_2 kw_347) (by decide +kernel) ⟨Nat.le_of_ble_eq_true rfl, Nat.le_of_ble_eq_true rfl⟩ (va_recv (q0 := 0) (ci := 1) hK hI.1 rfl rfl) rfl hl.1 (Nat.le_of_ble_eq_true rfl) d1_in_16 ⟨Nat.le_of_ble_eq_true rfl, Nat.le_of_ble_eq_true rfl⟩ rfl (fun ra u1 H locs hq1 hI => ?_)
    obtain ⟨hvu1, hu1⟩ := hq1
    rw [hvu1]
    refine lv_if_eq (tgt := 24) hx hb d1_in_19 (by decide) (fun hc => ?_) (fun hc => ?_)
    · exact absurd hc (by decide)
    · skip
      refine lv_iconst (v := nI 0) hx hb d1_in_22 (by decide) ?_
      exact kret_i (x := u1) (wf := kwM h ad cI cZ) hx hb hr hlocks hK hI (⟨1, Or.inl ⟨rfl, hnw⟩, by rw [hu1]; rfl, by rw [hu1]; exact mSt_err hst⟩) d1_in_23
  · skip
    have f1 := hc
    refine lv_iload_n hx hb d1_in_5 rfl (lv_at hl 1 rfl) ?_
    refine lv_iconst (v := nI 4) hx hb d1_in_6 (by decide) ?_
    refine lv_icmp_le (tgt := 14) hx hb d1_in_7 (by decide) (fun hc => ?_) (fun hc => ?_)
    · skip
      obtain ⟨st, hs5, rfl⟩ := kIx_le (n := 4) (by decide) f1 hc
      refine lv_iconst (v := kb false) hx hb d1_in_14 (by decide) ?_
      refine lv_iconst (v := nI 1) hx hb d1_in_15 (by decide) ?_
      refine kcall_i (n := 2) (u := u) (wf := kwM h ad cI cZ) (As := [.int (kb false), .int (nI 1)]) (b := h) (rest := []) hx hb hml hown hB hK hI hA hE hZ (C1_fails l D cI cZ cG h ad s.heap.size u false (nI 1)) (kgV kw_344 kw_346 ks1_fails kw_2 kw_347) (by decide +kernel) ⟨Nat.le_of_ble_eq_true rfl, Nat.le_of_ble_eq_true rfl⟩ (va_recv (q0 := 0) (ci := 1) hK hI.1 rfl rfl) rfl hl.1 (Nat.le_of_ble_eq_true rfl) d1_in_16 ⟨Nat.le_of_ble_eq_true rfl, Nat.le_of_ble_eq_true rfl⟩ rfl (fun ra u1 H locs hq1 hI => ?_)
      obtain ⟨hvu1, hu1⟩ := hq1
      rw [hvu1]
      refine lv_if_eq (tgt := 24) hx hb d1_in_19 (by decide) (fun hc => ?_) (fun hc => ?_)
      · skip
        refine lv_aload_n hx hb d1_in_24 rfl (lv_at hl 0 rfl) ?_
        have hsu1 : mSt P n u1 := by rw [hu1]; exact mSt_err hst
        refine kcall_v (n := 0) (u := u1) (wf := kwM h ad cI cZ) (As := []) (b := h) (rest := []) hx hb hml hown hB hK hI hA hE hZ (C1_reckon l D cI cZ cG h ad H.size u1 P n hsu1) (kgV kw_364 kw_366 ks1_reckon kw_2 kw_367) (by decide +kernel) ⟨Nat.le_of_ble_eq_true rfl, Nat.le_of_ble_eq_true rfl⟩ (va_recv (q0 := 0) (ci := 1) hK hI.1 rfl rfl) rfl hl.1 (Nat.le_of_ble_eq_true rfl) d1_in_25 ⟨Nat.le_of_ble_eq_true rfl, Nat.le_of_ble_eq_true rfl⟩ rfl (fun u9 H locs hq9 hI => ?_)
        obtain ⟨hall, he9⟩ := hq9
        refine lv_iconst (v := nI 0) hx hb d1_in_28 (by decide) ?_
        refine lv_istore_n hx hb d1_in_29 rfl hl (by decide) rfl (fun ls hl => ?_)
        have hl : lv_has ls 4 [(3, .int (nI 0)), (0, .ref h), (1, .int (nI st)), (2, .int cy)] := hl
        refine L1_in l D cI cZ cG h ad u9 P n hall st hs5 cy hx hb hml hown hB hK hA hE hZ (fun ls H locs i hj hl hI => ?_) (fun ls H locs i hj hl hI => ?_) n ls H locs 0 (Nat.zero_add _) rfl (lv_sub hl [0, 1, 2, 3] rfl) hI
        · skip
          refine lv_iload_n hx hb d1_in_60 rfl (lv_at hl 0 rfl) ?_
          exact kret_i (x := u9) (wf := kwM h ad cI cZ) hx hb hr hlocks hK hI (⟨0, Or.inr ⟨rfl, st, hs5, rfl, hj.symm⟩, by rw [he9, hu1]; rfl, hall.st⟩) d1_in_61
        · skip
          refine lv_iconst (v := -1) hx hb d1_in_68 (by decide) ?_
          exact kret_i (x := u9) (wf := kwM h ad cI cZ) hx hb hr hlocks hK hI (⟨0, Or.inr ⟨rfl, st, hs5, rfl, hj.symm⟩, by rw [he9, hu1]; rfl, hall.st⟩) d1_in_69
      · exact absurd rfl hc
    · skip
      have hnw : ¬ kIx vs 5 := kIx_gt (n := 4) (by decide) hc
      refine lv_iconst (v := kb true) hx hb d1_in_10 (by decide) ?_
      refine lv_goto (tgt := 15) hx hb d1_in_11 (by decide) ?_
      refine lv_iconst (v := nI 1) hx hb d1_in_15 (by decide) ?_
      refine kcall_i (n := 2) (u := u) (wf := kwM h ad cI cZ) (As := [.int (kb true), .int (nI 1)]) (b := h) (rest := []) hx hb hml hown hB hK hI hA hE hZ (C1_fails l D cI cZ cG h ad s.heap.size u true (nI 1)) (kgV kw_344 kw_346 ks1_fails kw_2 kw_347) (by decide +kernel) ⟨Nat.le_of_ble_eq_true rfl, Nat.le_of_ble_eq_true rfl⟩ (va_recv (q0 := 0) (ci := 1) hK hI.1 rfl rfl) rfl hl.1 (Nat.le_of_ble_eq_true rfl) d1_in_16 ⟨Nat.le_of_ble_eq_true rfl, Nat.le_of_ble_eq_true rfl⟩ rfl (fun ra u1 H locs hq1 hI => ?_)
      obtain ⟨hvu1, hu1⟩ := hq1
      rw [hvu1]
      refine lv_if_eq (tgt := 24) hx hb d1_in_19 (by decide) (fun hc => ?_) (fun hc => ?_)
      · exact absurd hc (by decide)
      · skip
        refine lv_iconst (v := nI 0) hx hb d1_in_22 (by decide) ?_
        exact kret_i (x := u1) (wf := kwM h ad cI cZ) hx hb hr hlocks hK hI (⟨1, Or.inl ⟨rfl, hnw⟩, by rw [hu1]; rfl, by rw [hu1]; exact mSt_err hst⟩) d1_in_23
set_option maxHeartbeats 4000000 in
set_option maxRecDepth 100000 in
theorem L1_cnt2 {p : Program} {e : Env} {s : State} {m : MethodId} {args : Array Value} {below : List Frame} {meth : Method} {c : Code} {Q : State → Prop} {A : Nat → Prop} (l : Launch) (D : va_G) (cI cZ cG : ClassId) (h : Nat) (ad : Nat → Nat) (u : kU) (P : Nat → kIns) (n : Nat) (hall : mAll P n u) (hx : p.tables.exec = Jvm.exec) (hb : c.code = c1_count) (hml : c.maxLocals = 5) (hown : s.vm.findClass "StageClockModel" = some m.cls) (hB : ∀ w ∈ kBIG, w.before args s = true) (hK : va_K D kcl (kty cI cZ cG) s) (hA : ∀ q : Nat, s.heap.size ≤ q → A q) (hE : kE s) (hZ : kZ A s s.heap)
    (kk : ∀ (ls : Array Slot) (H : Heap) (locs : List Loc) (i : Nat), lv_has ls 5 [(4, .int (nI i)), (2, .int (nI (mt_lw P n - n))), (3, .int (nI (mt_lw P n))), (0, .ref h), (1, .int (nI 2))] → kI D A s.heap (kwM h ad cI cZ u) H locs → W p l e ({ frames := 3, cells := 0, slots := 0, locals := 90 } : Room) s m args below meth c H locs 0 0 Q (F0 m 108 ls []))
    : ∀ (d : Nat) (ls : Array Slot) (H : Heap) (locs : List Loc) (i : Nat) (hd : i + d = n), lv_has ls 5 [(4, .int (nI i)), (2, .int (nI (mt_lw P n - i))), (3, .int (nI (mt_lw P n))), (0, .ref h), (1, .int (nI 2))] → kI D A s.heap (kwM h ad cI cZ u) H locs → W p l e ({ frames := 3, cells := 0, slots := 0, locals := 90 } : Room) s m args below meth c H locs 0 0 Q (F0 m 79 ls []) := by
  have hn := hall.1.2.1
  intro d
  induction d with
  | zero =>
    intro ls H locs i hd hl hI
    obtain rfl : i = n := by omega
    refine lv_iload hx hb d1_count_79 (lv_at hl 0 rfl) ?_
    refine lv_aload_n hx hb d1_count_81 rfl (lv_at hl 3 rfl) ?_
    refine kM_g13 hx hb hB hown hK hI d1_count_82 ?_
    rw [show u 13 0 = nI i from hall.1.1]
    refine lv_icmp_ge (tgt := 108) hx hb d1_count_85 (by decide) (fun hc => ?_) (fun hc => ?_)
    · skip
      exact kk ls H locs _ hl hI
    · exact absurd (nI_le (Nat.le_refl _) (by omega)) hc
  | succ d ih =>
    intro ls H locs i hd hl hI
    have hlw := mt_lw_ge P n
    have hle := mt_W_lw (P := P) (n := n) (i := i) (by omega)
    have hlu := mt_lw_le (P := P) (n := n) (fun j hj => (hall.1.2.2 j hj).1)
    refine lv_iload hx hb d1_count_79 (lv_at hl 0 rfl) ?_
    refine lv_aload_n hx hb d1_count_81 rfl (lv_at hl 3 rfl) ?_
    refine kM_g13 hx hb hB hown hK hI d1_count_82 ?_
    rw [show u 13 0 = nI n from hall.1.1]
    refine lv_icmp_ge (tgt := 108) hx hb d1_count_85 (by decide) (fun hc => ?_) (fun hc => ?_)
    · exact absurd hc (nI_ge (by omega) (by omega))
    · skip
      refine lv_aload_n hx hb d1_count_88 rfl (lv_at hl 3 rfl) ?_
      refine kM_g12 hx hb hB hown hK hI d1_count_89 ?_
      refine lv_iload hx hb d1_count_92 (lv_at hl 0 rfl) ?_
      refine kM_l11 (v := nI (mt_tm P i).2.2.2.2) hx hb hK hI i (by omega) (rfl) ((hall.2.2 i (by omega)).2.2.2.2) d1_count_94 ?_
      refine lv_iload_n hx hb d1_count_95 rfl (lv_at hl 2 rfl) ?_
      refine lv_icmp_gt (tgt := 102) hx hb d1_count_96 (by decide) (fun hc => ?_) (fun hc => ?_)
      · exact absurd hc (nI_nlt hle (by omega))
      · skip
        refine lv_iinc (k := 1) (v := nI (mt_lw P n - (i + 1))) hx hb d1_count_99 hl rfl (kdec2 (by omega)) (by decide) rfl (fun ls hl => ?_)
        have hl : lv_has ls 5 [(2, .int (nI (mt_lw P n - (i + 1)))), (4, .int (nI i)), (3, .int (nI (mt_lw P n))), (0, .ref h), (1, .int (nI 2))] := hl
        refine lv_iinc (k := 1) (v := nI (i + 1)) hx hb d1_count_102 hl rfl (by rw [show Int32.ofInt 1 = 1 by decide]; exact nI_1 _) (by decide) rfl (fun ls hl => ?_)
        have hl : lv_has ls 5 [(4, .int (nI (i + 1))), (2, .int (nI (mt_lw P n - (i + 1)))), (3, .int (nI (mt_lw P n))), (0, .ref h), (1, .int (nI 2))] := hl
        refine lv_goto (tgt := 79) hx hb d1_count_105 (by decide) ?_
        exact ih ls H locs (i + 1) (by omega) (lv_sub hl [0, 1, 2, 3, 4] rfl) hI
set_option maxHeartbeats 4000000 in
set_option maxRecDepth 100000 in
theorem L1_cnt3 {p : Program} {e : Env} {s : State} {m : MethodId} {args : Array Value} {below : List Frame} {meth : Method} {c : Code} {Q : State → Prop} {A : Nat → Prop} (l : Launch) (D : va_G) (cI cZ cG : ClassId) (h : Nat) (ad : Nat → Nat) (u : kU) (P : Nat → kIns) (n : Nat) (hall : mAll P n u) (hx : p.tables.exec = Jvm.exec) (hb : c.code = c1_count) (hml : c.maxLocals = 5) (hown : s.vm.findClass "StageClockModel" = some m.cls) (hB : ∀ w ∈ kBIG, w.before args s = true) (hK : va_K D kcl (kty cI cZ cG) s) (hA : ∀ q : Nat, s.heap.size ≤ q → A q) (hE : kE s) (hZ : kZ A s s.heap)
    (kk : ∀ (ls : Array Slot) (H : Heap) (locs : List Loc) (i : Nat), lv_has ls 5 [(4, .int (nI i)), (2, .int (nI (mt_cw P n))), (3, .int (nI (mt_lw P n))), (0, .ref h), (1, .int (nI 3))] → kI D A s.heap (kwM h ad cI cZ u) H locs → W p l e ({ frames := 3, cells := 0, slots := 0, locals := 90 } : Room) s m args below meth c H locs 0 0 Q (F0 m 141 ls []))
    : ∀ (d : Nat) (ls : Array Slot) (H : Heap) (locs : List Loc) (i : Nat) (hd : i + d = n), lv_has ls 5 [(4, .int (nI i)), (2, .int (nI (mt_cw P i))), (3, .int (nI (mt_lw P n))), (0, .ref h), (1, .int (nI 3))] → kI D A s.heap (kwM h ad cI cZ u) H locs → W p l e ({ frames := 3, cells := 0, slots := 0, locals := 90 } : Room) s m args below meth c H locs 0 0 Q (F0 m 113 ls []) := by
  have hn := hall.1.2.1
  intro d
  induction d with
  | zero =>
    intro ls H locs i hd hl hI
    obtain rfl : i = n := by omega
    refine lv_iload hx hb d1_count_113 (lv_at hl 0 rfl) ?_
    refine lv_aload_n hx hb d1_count_115 rfl (lv_at hl 3 rfl) ?_
    refine kM_g13 hx hb hB hown hK hI d1_count_116 ?_
    rw [show u 13 0 = nI i from hall.1.1]
    refine lv_icmp_ge (tgt := 141) hx hb d1_count_119 (by decide) (fun hc => ?_) (fun hc => ?_)
    · skip
      exact kk ls H locs _ hl hI
    · exact absurd (nI_le (Nat.le_refl _) (by omega)) hc
  | succ d ih =>
    intro ls H locs i hd hl hI
    refine lv_iload hx hb d1_count_113 (lv_at hl 0 rfl) ?_
    refine lv_aload_n hx hb d1_count_115 rfl (lv_at hl 3 rfl) ?_
    refine kM_g13 hx hb hB hown hK hI d1_count_116 ?_
    rw [show u 13 0 = nI n from hall.1.1]
    refine lv_icmp_ge (tgt := 141) hx hb d1_count_119 (by decide) (fun hc => ?_) (fun hc => ?_)
    · exact absurd hc (nI_ge (by omega) (by omega))
    · skip
      refine lv_aload_n hx hb d1_count_122 rfl (lv_at hl 3 rfl) ?_
      refine kM_g7 hx hb hB hown hK hI d1_count_123 ?_
      refine lv_iload hx hb d1_count_126 (lv_at hl 0 rfl) ?_
      refine kM_l6 (v := kb (mt_wr (P i))) hx hb hK hI i (by omega) (rfl) ((hall.1.2.2 i (by omega)).2.2.2.2.2.2.2) d1_count_128 ?_
      refine lv_if_eq (tgt := 135) hx hb d1_count_129 (by decide) (fun hc => ?_) (fun hc => ?_)
      · skip
        have hcw : mt_cw P (i + 1) = mt_cw P i := mt_cw_f (kb_0 hc)
        refine lv_iinc (k := 0) (v := nI (i + 1)) hx hb d1_count_135 hl rfl (by rw [show Int32.ofInt 1 = 1 by decide]; exact nI_1 _) (by decide) rfl (fun ls hl => ?_)
        have hl : lv_has ls 5 [(4, .int (nI (i + 1))), (2, .int (nI (mt_cw P i))), (3, .int (nI (mt_lw P n))), (0, .ref h), (1, .int (nI 3))] := hl
        refine lv_goto (tgt := 113) hx hb d1_count_138 (by decide) ?_
        exact ih ls H locs (i + 1) (by omega) (by rw [hcw]; exact (lv_sub hl [0, 1, 2, 3, 4] rfl)) hI
      · skip
        have hcw : mt_cw P (i + 1) = mt_cw P i + 1 := mt_cw_t (kb_1 hc)
        refine lv_iinc (k := 1) (v := nI ((mt_cw P i) + 1)) hx hb d1_count_132 hl rfl (by rw [show Int32.ofInt 1 = 1 by decide]; exact nI_1 _) (by decide) rfl (fun ls hl => ?_)
        have hl : lv_has ls 5 [(2, .int (nI ((mt_cw P i) + 1))), (4, .int (nI i)), (3, .int (nI (mt_lw P n))), (0, .ref h), (1, .int (nI 3))] := hl
        refine lv_iinc (k := 1) (v := nI (i + 1)) hx hb d1_count_135 hl rfl (by rw [show Int32.ofInt 1 = 1 by decide]; exact nI_1 _) (by decide) rfl (fun ls hl => ?_)
        have hl : lv_has ls 5 [(4, .int (nI (i + 1))), (2, .int (nI ((mt_cw P i) + 1))), (3, .int (nI (mt_lw P n))), (0, .ref h), (1, .int (nI 3))] := hl
        refine lv_goto (tgt := 113) hx hb d1_count_138 (by decide) ?_
        exact ih ls H locs (i + 1) (by omega) (by rw [hcw]; exact (lv_sub hl [0, 1, 2, 3, 4] rfl)) hI
set_option maxHeartbeats 4000000 in
set_option maxRecDepth 100000 in
theorem C1_count (l : Launch) (D : va_G) (cI cZ cG : ClassId) (h : Nat) (ad : Nat → Nat) (sz : Nat) (u : kU) (P : Nat → kIns) (n : Nat) (hst : mSt P n u) (vw : Int32) : kMi l D (kty cI cZ cG) y1_count (.code y1_count c1_count 5 (some .int)) ({ frames := 3, cells := 0, slots := 0, locals := 90 }) [.ref h, .int vw] (kwM h ad cI cZ) u sz (fun v x => ∃ c, oN P n vw c v ∧ x 12 0 = nI c ∧ mSt P n x) := by
  refine Met.ofW (cc := c1_count) (maxL := 5) (ret := (some .int)) (by decide) rfl ?_
  intro p e s m args below meth c s₁ B hml hv
  obtain ⟨rfl, hsz, hP, hK, hD0, hE, hZ⟩ := hv
  have hx := B.exec
  have hb := B.bytes
  have hr := B.returns
  have hts := atoms_spec (ws := Cond.code y1_count c1_count 5 (some .int) :: kBIG) B.pre
  have hB : ∀ w ∈ kBIG, w.before _ s = true := fun w q => hts w (List.mem_cons_of_mem _ q)
  have hown : s.vm.findClass "StageClockModel" = some m.cls := findClass_of_methodNamed B.named
  have hlocks := B.notSynchronized
  subst hsz
  have hD := hD0.self (sz := s.heap.size)
  generalize hAe : va_A (kwM h ad cI cZ u) s.heap.size = A at hD hZ ⊢
  have hA : ∀ q : Nat, s.heap.size ≤ q → A q := fun q h => by rw [← hAe]; exact Or.inr h
  have hI : kI D A s.heap (kwM h ad cI cZ u) s.heap [] := ⟨hP, hD, va_S.rf⟩
  have hl := lv_entry ([.ref h, .int vw]) (n := 5) (Nat.le_of_ble_eq_true rfl)
  rw [lg_entry_eq]
  generalize (lg_sl ([.ref h, .int vw]) ++ List.replicate (5 - (lg_sl ([.ref h, .int vw])).length) Slot.unset).toArray = ls at hl ⊢
  have hl : lv_has ls 5 [(0, .ref h), (1, .int vw)] := hl
  have hin := hst.1
  have hn := hin.2.1
  refine lv_aload_n hx hb d1_count_0 rfl (lv_at hl 0 rfl) ?_
  refine lv_iload_n hx hb d1_count_1 rfl (lv_at hl 1 rfl) ?_
  refine lv_if_lt (tgt := 10) hx hb d1_count_2 (by decide) (fun hc => ?_) (fun hc => ?_)
  · skip
    have hnw : ¬ kIx vw 4 := kIx_neg (by decide) hc
    refine lv_iconst (v := kb true) hx hb d1_count_10 (by decide) ?_
    refine lv_goto (tgt := 15) hx hb d1_count_11 (by decide) ?_
    refine lv_iconst (v := nI 1) hx hb d1_count_15 (by decide) ?_
    refine kcall_i (n := 2) (u := u) (wf := kwM h ad cI cZ) (As := [.int (kb true), .int (nI 1)]) (b := h) (rest := []) hx hb hml hown hB hK hI hA hE hZ (C1_fails l D cI cZ cG h ad s.heap.size u true (nI 1)) (kgV kw_344 kw_346 ks1_fails kw_2 kw_347) (by decide +kernel) ⟨Nat.le_of_ble_eq_true rfl, Nat.le_of_ble_eq_true rfl⟩ (va_recv (q0 := 0) (ci := 1) hK hI.1 rfl rfl) rfl hl.1 (Nat.le_of_ble_eq_true rfl) d1_count_16 ⟨Nat.le_of_ble_eq_true rfl, Nat.le_of_ble_eq_true rfl⟩ rfl (fun ra u1 H locs hq1 hI => ?_)
    obtain ⟨hvu1, hu1⟩ := hq1
    rw [hvu1]
    refine lv_if_eq (tgt := 24) hx hb d1_count_19 (by decide) (fun hc => ?_) (fun hc => ?_)
    · exact absurd hc (by decide)
    · skip
      refine lv_iconst (v := nI 0) hx hb d1_count_22 (by decide) ?_
      exact kret_i (x := u1) (wf := kwM h ad cI cZ) hx hb hr hlocks hK hI (⟨1, Or.inl ⟨rfl, hnw⟩, by rw [hu1]; rfl, by rw [hu1]; exact mSt_err hst⟩) d1_count_23
  · skip
    have f1 := hc
    refine lv_iload_n hx hb d1_count_5 rfl (lv_at hl 1 rfl) ?_
    refine lv_iconst (v := nI 3) hx hb d1_count_6 (by decide) ?_
    refine lv_icmp_le (tgt := 14) hx hb d1_count_7 (by decide) (fun hc => ?_) (fun hc => ?_)
    · skip
      obtain ⟨j, hj4, rfl⟩ := kIx_le (n := 3) (by decide) f1 hc
      refine lv_iconst (v := kb false) hx hb d1_count_14 (by decide) ?_
      refine lv_iconst (v := nI 1) hx hb d1_count_15 (by decide) ?_
      refine kcall_i (n := 2) (u := u) (wf := kwM h ad cI cZ) (As := [.int (kb false), .int (nI 1)]) (b := h) (rest := []) hx hb hml hown hB hK hI hA hE hZ (C1_fails l D cI cZ cG h ad s.heap.size u false (nI 1)) (kgV kw_344 kw_346 ks1_fails kw_2 kw_347) (by decide +kernel) ⟨Nat.le_of_ble_eq_true rfl, Nat.le_of_ble_eq_true rfl⟩ (va_recv (q0 := 0) (ci := 1) hK hI.1 rfl rfl) rfl hl.1 (Nat.le_of_ble_eq_true rfl) d1_count_16 ⟨Nat.le_of_ble_eq_true rfl, Nat.le_of_ble_eq_true rfl⟩ rfl (fun ra u1 H locs hq1 hI => ?_)
      obtain ⟨hvu1, hu1⟩ := hq1
      rw [hvu1]
      refine lv_if_eq (tgt := 24) hx hb d1_count_19 (by decide) (fun hc => ?_) (fun hc => ?_)
      · skip
        refine lv_aload_n hx hb d1_count_24 rfl (lv_at hl 0 rfl) ?_
        have hsu1 : mSt P n u1 := by rw [hu1]; exact mSt_err hst
        refine kcall_v (n := 0) (u := u1) (wf := kwM h ad cI cZ) (As := []) (b := h) (rest := []) hx hb hml hown hB hK hI hA hE hZ (C1_reckon l D cI cZ cG h ad H.size u1 P n hsu1) (kgV kw_364 kw_366 ks1_reckon kw_2 kw_367) (by decide +kernel) ⟨Nat.le_of_ble_eq_true rfl, Nat.le_of_ble_eq_true rfl⟩ (va_recv (q0 := 0) (ci := 1) hK hI.1 rfl rfl) rfl hl.1 (Nat.le_of_ble_eq_true rfl) d1_count_25 ⟨Nat.le_of_ble_eq_true rfl, Nat.le_of_ble_eq_true rfl⟩ rfl (fun u9 H locs hq9 hI => ?_)
        obtain ⟨hall, he9⟩ := hq9
        refine lv_iconst (v := nI 0) hx hb d1_count_28 (by decide) ?_
        refine lv_istore_n hx hb d1_count_29 rfl hl (by decide) rfl (fun ls hl => ?_)
        have hl : lv_has ls 5 [(2, .int (nI 0)), (0, .ref h), (1, .int (nI j))] := hl
        refine lv_aload_n hx hb d1_count_30 rfl (lv_at hl 1 rfl) ?_
        refine kM_g13 hx hb hB hown hK hI d1_count_31 ?_
        rw [show u9 13 0 = nI n from hall.1.1]
        refine lv_if_ne (tgt := 41) hx hb d1_count_34 (by decide) (fun hc => ?_) (fun hc => ?_)
        · skip
          obtain ⟨a, ha⟩ := knI_s hc
          refine lv_aload_n hx hb d1_count_41 rfl (lv_at hl 1 rfl) ?_
          refine kM_g12 hx hb hB hown hK hI d1_count_42 ?_
          refine lv_aload_n hx hb d1_count_45 rfl (lv_at hl 1 rfl) ?_
          refine kM_g13 hx hb hB hown hK hI d1_count_46 ?_
          rw [show u9 13 0 = nI n from hall.1.1]
          refine lv_iconst (v := nI 1) hx hb d1_count_49 (by decide) ?_
          refine k_isub (v := nI a) hx hb (by rw [ha]; exact pk_sub (by omega)) d1_count_50 ?_
          refine kM_l11 (v := nI (mt_lw P n)) hx hb hK hI a (by omega) (rfl) ((hall.2.2 a (by omega)).2.2.2.2.trans (by rw [ha]; rfl)) d1_count_51 ?_
          refine lv_istore_n hx hb d1_count_52 rfl hl (by decide) rfl (fun ls hl => ?_)
          have hl : lv_has ls 5 [(3, .int (nI (mt_lw P n))), (2, .int (nI 0)), (0, .ref h), (1, .int (nI j))] := hl
          skip
          rcases (show j = 0 ∨ j = 1 ∨ j = 2 ∨ j = 3 by omega) with rfl | rfl | rfl | rfl
          · skip
            refine lv_iload_n hx hb d1_count_53 rfl (lv_at hl 3 rfl) ?_
            refine lv_if_ne (tgt := 62) hx hb d1_count_54 (by decide) (fun hc => ?_) (fun hc => ?_)
            · exact absurd (by decide) hc
            · skip
              refine lv_aload_n hx hb d1_count_57 rfl (lv_at hl 2 rfl) ?_
              refine kM_g13 hx hb hB hown hK hI d1_count_58 ?_
              rw [show u9 13 0 = nI n from hall.1.1]
              exact kret_i (x := u9) (wf := kwM h ad cI cZ) hx hb hr hlocks hK hI (⟨0, Or.inr ⟨rfl, 0, by decide, rfl, rfl⟩, by rw [he9, hu1]; rfl, hall.st⟩) d1_count_61
          · skip
            refine lv_iload_n hx hb d1_count_53 rfl (lv_at hl 3 rfl) ?_
            refine lv_if_ne (tgt := 62) hx hb d1_count_54 (by decide) (fun hc => ?_) (fun hc => ?_)
            · skip
              refine lv_iload_n hx hb d1_count_62 rfl (lv_at hl 3 rfl) ?_
              refine lv_iconst (v := nI 1) hx hb d1_count_63 (by decide) ?_
              refine lv_icmp_ne (tgt := 69) hx hb d1_count_64 (by decide) (fun hc => ?_) (fun hc => ?_)
              · exact absurd rfl hc
              · skip
                refine lv_iload_n hx hb d1_count_67 rfl (lv_at hl 0 rfl) ?_
                exact kret_i (x := u9) (wf := kwM h ad cI cZ) hx hb hr hlocks hK hI (⟨0, Or.inr ⟨rfl, 1, by decide, rfl, rfl⟩, by rw [he9, hu1]; rfl, hall.st⟩) d1_count_68
            · exact absurd hc (by decide)
          · skip
            refine lv_iload_n hx hb d1_count_53 rfl (lv_at hl 3 rfl) ?_
            refine lv_if_ne (tgt := 62) hx hb d1_count_54 (by decide) (fun hc => ?_) (fun hc => ?_)
            · skip
              refine lv_iload_n hx hb d1_count_62 rfl (lv_at hl 3 rfl) ?_
              refine lv_iconst (v := nI 1) hx hb d1_count_63 (by decide) ?_
              refine lv_icmp_ne (tgt := 69) hx hb d1_count_64 (by decide) (fun hc => ?_) (fun hc => ?_)
              · skip
                refine lv_iload_n hx hb d1_count_69 rfl (lv_at hl 3 rfl) ?_
                refine lv_iconst (v := nI 2) hx hb d1_count_70 (by decide) ?_
                refine lv_icmp_ne (tgt := 110) hx hb d1_count_71 (by decide) (fun hc => ?_) (fun hc => ?_)
                · exact absurd rfl hc
                · skip
                  refine lv_iload_n hx hb d1_count_74 rfl (lv_at hl 0 rfl) ?_
                  refine lv_istore_n hx hb d1_count_75 rfl hl (by decide) rfl (fun ls hl => ?_)
                  have hl : lv_has ls 5 [(2, .int (nI (mt_lw P n))), (3, .int (nI (mt_lw P n))), (0, .ref h), (1, .int (nI 2))] := hl
                  refine lv_iconst (v := nI 0) hx hb d1_count_76 (by decide) ?_
                  refine lv_istore hx hb d1_count_77 hl (by decide) rfl (fun ls hl => ?_)
                  have hl : lv_has ls 5 [(4, .int (nI 0)), (2, .int (nI (mt_lw P n))), (3, .int (nI (mt_lw P n))), (0, .ref h), (1, .int (nI 2))] := hl
                  refine L1_cnt2 l D cI cZ cG h ad u9 P n hall hx hb hml hown hB hK hA hE hZ (fun ls H locs i hl hI => ?_) n ls H locs 0 (Nat.zero_add _) (lv_sub hl [0, 1, 2, 3, 4] rfl) hI
                  refine lv_iload_n hx hb d1_count_108 rfl (lv_at hl 1 rfl) ?_
                  exact kret_i (x := u9) (wf := kwM h ad cI cZ) hx hb hr hlocks hK hI (⟨0, Or.inr ⟨rfl, 2, by decide, rfl, rfl⟩, by rw [he9, hu1]; rfl, hall.st⟩) d1_count_109
              · exact absurd hc (by decide)
            · exact absurd hc (by decide)
          · skip
            refine lv_iload_n hx hb d1_count_53 rfl (lv_at hl 3 rfl) ?_
            refine lv_if_ne (tgt := 62) hx hb d1_count_54 (by decide) (fun hc => ?_) (fun hc => ?_)
            · skip
              refine lv_iload_n hx hb d1_count_62 rfl (lv_at hl 3 rfl) ?_
              refine lv_iconst (v := nI 1) hx hb d1_count_63 (by decide) ?_
              refine lv_icmp_ne (tgt := 69) hx hb d1_count_64 (by decide) (fun hc => ?_) (fun hc => ?_)
              · skip
                refine lv_iload_n hx hb d1_count_69 rfl (lv_at hl 3 rfl) ?_
                refine lv_iconst (v := nI 2) hx hb d1_count_70 (by decide) ?_
                refine lv_icmp_ne (tgt := 110) hx hb d1_count_71 (by decide) (fun hc => ?_) (fun hc => ?_)
                · skip
                  refine lv_iconst (v := nI 0) hx hb d1_count_110 (by decide) ?_
                  refine lv_istore hx hb d1_count_111 hl (by decide) rfl (fun ls hl => ?_)
                  have hl : lv_has ls 5 [(4, .int (nI 0)), (3, .int (nI (mt_lw P n))), (2, .int (nI 0)), (0, .ref h), (1, .int (nI 3))] := hl
                  refine L1_cnt3 l D cI cZ cG h ad u9 P n hall hx hb hml hown hB hK hA hE hZ (fun ls H locs i hl hI => ?_) n ls H locs 0 (Nat.zero_add _) (lv_sub hl [0, 2, 1, 3, 4] rfl) hI
                  refine lv_iload_n hx hb d1_count_141 rfl (lv_at hl 1 rfl) ?_
                  exact kret_i (x := u9) (wf := kwM h ad cI cZ) hx hb hr hlocks hK hI (⟨0, Or.inr ⟨rfl, 3, by decide, rfl, rfl⟩, by rw [he9, hu1]; rfl, hall.st⟩) d1_count_142
                · exact absurd hc (by decide)
              · exact absurd hc (by decide)
            · exact absurd hc (by decide)
        · skip
          have e0 := knI_z (by omega) hc
          refine lv_iconst (v := nI 0) hx hb d1_count_37 (by decide) ?_
          refine lv_goto (tgt := 52) hx hb d1_count_38 (by decide) ?_
          refine lv_istore_n hx hb d1_count_52 rfl hl (by decide) rfl (fun ls hl => ?_)
          have hl : lv_has ls 5 [(3, .int (nI 0)), (2, .int (nI 0)), (0, .ref h), (1, .int (nI j))] := hl
          have hl : lv_has ls 5 [(3, .int (nI (mt_lw P n))), (2, .int (nI 0)), (0, .ref h), (1, .int (nI j))] := by rw [show mt_lw P n = 0 by rw [e0]; rfl]; exact hl
          rcases (show j = 0 ∨ j = 1 ∨ j = 2 ∨ j = 3 by omega) with rfl | rfl | rfl | rfl
          · skip
            refine lv_iload_n hx hb d1_count_53 rfl (lv_at hl 3 rfl) ?_
            refine lv_if_ne (tgt := 62) hx hb d1_count_54 (by decide) (fun hc => ?_) (fun hc => ?_)
            · exact absurd (by decide) hc
            · skip
              refine lv_aload_n hx hb d1_count_57 rfl (lv_at hl 2 rfl) ?_
              refine kM_g13 hx hb hB hown hK hI d1_count_58 ?_
              rw [show u9 13 0 = nI n from hall.1.1]
              exact kret_i (x := u9) (wf := kwM h ad cI cZ) hx hb hr hlocks hK hI (⟨0, Or.inr ⟨rfl, 0, by decide, rfl, rfl⟩, by rw [he9, hu1]; rfl, hall.st⟩) d1_count_61
          · skip
            refine lv_iload_n hx hb d1_count_53 rfl (lv_at hl 3 rfl) ?_
            refine lv_if_ne (tgt := 62) hx hb d1_count_54 (by decide) (fun hc => ?_) (fun hc => ?_)
            · skip
              refine lv_iload_n hx hb d1_count_62 rfl (lv_at hl 3 rfl) ?_
              refine lv_iconst (v := nI 1) hx hb d1_count_63 (by decide) ?_
              refine lv_icmp_ne (tgt := 69) hx hb d1_count_64 (by decide) (fun hc => ?_) (fun hc => ?_)
              · exact absurd rfl hc
              · skip
                refine lv_iload_n hx hb d1_count_67 rfl (lv_at hl 0 rfl) ?_
                exact kret_i (x := u9) (wf := kwM h ad cI cZ) hx hb hr hlocks hK hI (⟨0, Or.inr ⟨rfl, 1, by decide, rfl, rfl⟩, by rw [he9, hu1]; rfl, hall.st⟩) d1_count_68
            · exact absurd hc (by decide)
          · skip
            refine lv_iload_n hx hb d1_count_53 rfl (lv_at hl 3 rfl) ?_
            refine lv_if_ne (tgt := 62) hx hb d1_count_54 (by decide) (fun hc => ?_) (fun hc => ?_)
            · skip
              refine lv_iload_n hx hb d1_count_62 rfl (lv_at hl 3 rfl) ?_
              refine lv_iconst (v := nI 1) hx hb d1_count_63 (by decide) ?_
              refine lv_icmp_ne (tgt := 69) hx hb d1_count_64 (by decide) (fun hc => ?_) (fun hc => ?_)
              · skip
                refine lv_iload_n hx hb d1_count_69 rfl (lv_at hl 3 rfl) ?_
                refine lv_iconst (v := nI 2) hx hb d1_count_70 (by decide) ?_
                refine lv_icmp_ne (tgt := 110) hx hb d1_count_71 (by decide) (fun hc => ?_) (fun hc => ?_)
                · exact absurd rfl hc
                · skip
                  refine lv_iload_n hx hb d1_count_74 rfl (lv_at hl 0 rfl) ?_
                  refine lv_istore_n hx hb d1_count_75 rfl hl (by decide) rfl (fun ls hl => ?_)
                  have hl : lv_has ls 5 [(2, .int (nI (mt_lw P n))), (3, .int (nI (mt_lw P n))), (0, .ref h), (1, .int (nI 2))] := hl
                  refine lv_iconst (v := nI 0) hx hb d1_count_76 (by decide) ?_
                  refine lv_istore hx hb d1_count_77 hl (by decide) rfl (fun ls hl => ?_)
                  have hl : lv_has ls 5 [(4, .int (nI 0)), (2, .int (nI (mt_lw P n))), (3, .int (nI (mt_lw P n))), (0, .ref h), (1, .int (nI 2))] := hl
                  refine L1_cnt2 l D cI cZ cG h ad u9 P n hall hx hb hml hown hB hK hA hE hZ (fun ls H locs i hl hI => ?_) n ls H locs 0 (Nat.zero_add _) (lv_sub hl [0, 1, 2, 3, 4] rfl) hI
                  refine lv_iload_n hx hb d1_count_108 rfl (lv_at hl 1 rfl) ?_
                  exact kret_i (x := u9) (wf := kwM h ad cI cZ) hx hb hr hlocks hK hI (⟨0, Or.inr ⟨rfl, 2, by decide, rfl, rfl⟩, by rw [he9, hu1]; rfl, hall.st⟩) d1_count_109
              · exact absurd hc (by decide)
            · exact absurd hc (by decide)
          · skip
            refine lv_iload_n hx hb d1_count_53 rfl (lv_at hl 3 rfl) ?_
            refine lv_if_ne (tgt := 62) hx hb d1_count_54 (by decide) (fun hc => ?_) (fun hc => ?_)
            · skip
              refine lv_iload_n hx hb d1_count_62 rfl (lv_at hl 3 rfl) ?_
              refine lv_iconst (v := nI 1) hx hb d1_count_63 (by decide) ?_
              refine lv_icmp_ne (tgt := 69) hx hb d1_count_64 (by decide) (fun hc => ?_) (fun hc => ?_)
              · skip
                refine lv_iload_n hx hb d1_count_69 rfl (lv_at hl 3 rfl) ?_
                refine lv_iconst (v := nI 2) hx hb d1_count_70 (by decide) ?_
                refine lv_icmp_ne (tgt := 110) hx hb d1_count_71 (by decide) (fun hc => ?_) (fun hc => ?_)
                · skip
                  refine lv_iconst (v := nI 0) hx hb d1_count_110 (by decide) ?_
                  refine lv_istore hx hb d1_count_111 hl (by decide) rfl (fun ls hl => ?_)
                  have hl : lv_has ls 5 [(4, .int (nI 0)), (3, .int (nI (mt_lw P n))), (2, .int (nI 0)), (0, .ref h), (1, .int (nI 3))] := hl
                  refine L1_cnt3 l D cI cZ cG h ad u9 P n hall hx hb hml hown hB hK hA hE hZ (fun ls H locs i hl hI => ?_) n ls H locs 0 (Nat.zero_add _) (lv_sub hl [0, 2, 1, 3, 4] rfl) hI
                  refine lv_iload_n hx hb d1_count_141 rfl (lv_at hl 1 rfl) ?_
                  exact kret_i (x := u9) (wf := kwM h ad cI cZ) hx hb hr hlocks hK hI (⟨0, Or.inr ⟨rfl, 3, by decide, rfl, rfl⟩, by rw [he9, hu1]; rfl, hall.st⟩) d1_count_142
                · exact absurd hc (by decide)
              · exact absurd hc (by decide)
            · exact absurd hc (by decide)
      · exact absurd rfl hc
    · skip
      have hnw : ¬ kIx vw 4 := kIx_gt (n := 3) (by decide) hc
      refine lv_iconst (v := kb true) hx hb d1_count_10 (by decide) ?_
      refine lv_goto (tgt := 15) hx hb d1_count_11 (by decide) ?_
      refine lv_iconst (v := nI 1) hx hb d1_count_15 (by decide) ?_
      refine kcall_i (n := 2) (u := u) (wf := kwM h ad cI cZ) (As := [.int (kb true), .int (nI 1)]) (b := h) (rest := []) hx hb hml hown hB hK hI hA hE hZ (C1_fails l D cI cZ cG h ad s.heap.size u true (nI 1)) (kgV kw_344 kw_346 ks1_fails kw_2 kw_347) (by decide +kernel) ⟨Nat.le_of_ble_eq_true rfl, Nat.le_of_ble_eq_true rfl⟩ (va_recv (q0 := 0) (ci := 1) hK hI.1 rfl rfl) rfl hl.1 (Nat.le_of_ble_eq_true rfl) d1_count_16 ⟨Nat.le_of_ble_eq_true rfl, Nat.le_of_ble_eq_true rfl⟩ rfl (fun ra u1 H locs hq1 hI => ?_)
      obtain ⟨hvu1, hu1⟩ := hq1
      rw [hvu1]
      refine lv_if_eq (tgt := 24) hx hb d1_count_19 (by decide) (fun hc => ?_) (fun hc => ?_)
      · exact absurd hc (by decide)
      · skip
        refine lv_iconst (v := nI 0) hx hb d1_count_22 (by decide) ?_
        exact kret_i (x := u1) (wf := kwM h ad cI cZ) hx hb hr hlocks hK hI (⟨1, Or.inl ⟨rfl, hnw⟩, by rw [hu1]; rfl, by rw [hu1]; exact mSt_err hst⟩) d1_count_23
