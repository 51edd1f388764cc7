theorem kin0 : ∀ w ∈ u_ws "StageClock" T0 10, w ∈ kBIG := by decide +kernel
theorem kin1 : ∀ w ∈ u_ws "StageClockModel" T1 15, w ∈ kBIG := by decide +kernel
section KR
variable {p : Program} {l : Launch} {e : Env} {R : Room} {s : State} {m : MethodId} {args : Array Value} {below : List Frame} {meth : Method} {c : Code} {H : Heap} {locs : List Loc} {cells slots : Nat} {Q : State → Prop}
variable {cc : ByteArray} {pc : Nat} {ls : Array Slot} {rest : List Value} {D : va_G} {A : Nat → Prop} {H0 : Heap} {h : Nat} {ad : Nat → Nat} {cI cZ cG : ClassId} {u : Nat → Nat → Int32}
theorem kC_g0 (hx : p.tables.exec = Jvm.exec) (hb : c.code = cc) (hB : ∀ w ∈ kBIG, w.before args s = true) (hown : s.vm.findClass "StageClock" = some m.cls) (hK : va_K D kcl (kty cI cZ cG) s) (hI : kI D A H0 (kwC h ad cI cZ cG u) H locs) (hdg : decode cc pc = .ok (.getfield 9, 3)) (kk : W p l e R s m args below meth c H locs cells slots Q (F0 m (pc + 3) ls (.ref (ad 0) :: rest))) : W p l e R s m args below meth c H locs cells slots Q (F0 m pc ls (.ref h :: rest)) := va_get (D := D) (cl := kcl) (ws := kwC h ad cI cZ cG u) (ci := 0) (C := "StageClock") (T := T0) (N := 10) hx hb hB kin0 hown hK hI.1 0 rfl rfl 0 (by decide) (hB _ kw_21) (fun _ q => q) rfl hdg kk
theorem kC_g1 (hx : p.tables.exec = Jvm.exec) (hb : c.code = cc) (hB : ∀ w ∈ kBIG, w.before args s = true) (hown : s.vm.findClass "StageClock" = some m.cls) (hK : va_K D kcl (kty cI cZ cG) s) (hI : kI D A H0 (kwC h ad cI cZ cG u) H locs) (hdg : decode cc pc = .ok (.getfield 13, 3)) (kk : W p l e R s m args below meth c H locs cells slots Q (F0 m (pc + 3) ls (.ref (ad 1) :: rest))) : W p l e R s m args below meth c H locs cells slots Q (F0 m pc ls (.ref h :: rest)) := va_get (D := D) (cl := kcl) (ws := kwC h ad cI cZ cG u) (ci := 0) (C := "StageClock") (T := T0) (N := 10) hx hb hB kin0 hown hK hI.1 0 rfl rfl 1 (by decide) (hB _ kw_22) (fun _ q => q) rfl hdg kk
theorem kC_g2 (hx : p.tables.exec = Jvm.exec) (hb : c.code = cc) (hB : ∀ w ∈ kBIG, w.before args s = true) (hown : s.vm.findClass "StageClock" = some m.cls) (hK : va_K D kcl (kty cI cZ cG) s) (hI : kI D A H0 (kwC h ad cI cZ cG u) H locs) (hdg : decode cc pc = .ok (.getfield 16, 3)) (kk : W p l e R s m args below meth c H locs cells slots Q (F0 m (pc + 3) ls (.ref (ad 2) :: rest))) : W p l e R s m args below meth c H locs cells slots Q (F0 m pc ls (.ref h :: rest)) := va_get (D := D) (cl := kcl) (ws := kwC h ad cI cZ cG u) (ci := 0) (C := "StageClock") (T := T0) (N := 10) hx hb hB kin0 hown hK hI.1 0 rfl rfl 2 (by decide) (hB _ kw_23) (fun _ q => q) rfl hdg kk
theorem kC_g3 (hx : p.tables.exec = Jvm.exec) (hb : c.code = cc) (hB : ∀ w ∈ kBIG, w.before args s = true) (hown : s.vm.findClass "StageClock" = some m.cls) (hK : va_K D kcl (kty cI cZ cG) s) (hI : kI D A H0 (kwC h ad cI cZ cG u) H locs) (hdg : decode cc pc = .ok (.getfield 19, 3)) (kk : W p l e R s m args below meth c H locs cells slots Q (F0 m (pc + 3) ls (.ref (ad 3) :: rest))) : W p l e R s m args below meth c H locs cells slots Q (F0 m pc ls (.ref h :: rest)) := va_get (D := D) (cl := kcl) (ws := kwC h ad cI cZ cG u) (ci := 0) (C := "StageClock") (T := T0) (N := 10) hx hb hB kin0 hown hK hI.1 0 rfl rfl 3 (by decide) (hB _ kw_24) (fun _ q => q) rfl hdg kk
theorem kC_g4 (hx : p.tables.exec = Jvm.exec) (hb : c.code = cc) (hB : ∀ w ∈ kBIG, w.before args s = true) (hown : s.vm.findClass "StageClock" = some m.cls) (hK : va_K D kcl (kty cI cZ cG) s) (hI : kI D A H0 (kwC h ad cI cZ cG u) H locs) (hdg : decode cc pc = .ok (.getfield 22, 3)) (kk : W p l e R s m args below meth c H locs cells slots Q (F0 m (pc + 3) ls (.ref (ad 4) :: rest))) : W p l e R s m args below meth c H locs cells slots Q (F0 m pc ls (.ref h :: rest)) := va_get (D := D) (cl := kcl) (ws := kwC h ad cI cZ cG u) (ci := 0) (C := "StageClock") (T := T0) (N := 10) hx hb hB kin0 hown hK hI.1 0 rfl rfl 4 (by decide) (hB _ kw_25) (fun _ q => q) rfl hdg kk
theorem kC_g5 (hx : p.tables.exec = Jvm.exec) (hb : c.code = cc) (hB : ∀ w ∈ kBIG, w.before args s = true) (hown : s.vm.findClass "StageClock" = some m.cls) (hK : va_K D kcl (kty cI cZ cG) s) (hI : kI D A H0 (kwC h ad cI cZ cG u) H locs) (hdg : decode cc pc = .ok (.getfield 26, 3)) (kk : W p l e R s m args below meth c H locs cells slots Q (F0 m (pc + 3) ls (.ref (ad 5) :: rest))) : W p l e R s m args below meth c H locs cells slots Q (F0 m pc ls (.ref h :: rest)) := va_get (D := D) (cl := kcl) (ws := kwC h ad cI cZ cG u) (ci := 0) (C := "StageClock") (T := T0) (N := 10) hx hb hB kin0 hown hK hI.1 0 rfl rfl 5 (by decide) (hB _ kw_26) (fun _ q => q) rfl hdg kk
theorem kC_g6 (hx : p.tables.exec = Jvm.exec) (hb : c.code = cc) (hB : ∀ w ∈ kBIG, w.before args s = true) (hown : s.vm.findClass "StageClock" = some m.cls) (hK : va_K D kcl (kty cI cZ cG) s) (hI : kI D A H0 (kwC h ad cI cZ cG u) H locs) (hdg : decode cc pc = .ok (.getfield 29, 3)) (kk : W p l e R s m args below meth c H locs cells slots Q (F0 m (pc + 3) ls (.ref (ad 6) :: rest))) : W p l e R s m args below meth c H locs cells slots Q (F0 m pc ls (.ref h :: rest)) := va_get (D := D) (cl := kcl) (ws := kwC h ad cI cZ cG u) (ci := 0) (C := "StageClock") (T := T0) (N := 10) hx hb hB kin0 hown hK hI.1 0 rfl rfl 6 (by decide) (hB _ kw_27) (fun _ q => q) rfl hdg kk
theorem kC_g7 (hx : p.tables.exec = Jvm.exec) (hb : c.code = cc) (hB : ∀ w ∈ kBIG, w.before args s = true) (hown : s.vm.findClass "StageClock" = some m.cls) (hK : va_K D kcl (kty cI cZ cG) s) (hI : kI D A H0 (kwC h ad cI cZ cG u) H locs) (hdg : decode cc pc = .ok (.getfield 34, 3)) (kk : W p l e R s m args below meth c H locs cells slots Q (F0 m (pc + 3) ls (.ref (ad 15) :: rest))) : W p l e R s m args below meth c H locs cells slots Q (F0 m pc ls (.ref h :: rest)) := va_get (D := D) (cl := kcl) (ws := kwC h ad cI cZ cG u) (ci := 0) (C := "StageClock") (T := T0) (N := 10) hx hb hB kin0 hown hK hI.1 0 rfl rfl 7 (by decide) (hB _ kw_28) (fun _ q => q) rfl hdg kk
theorem kC_g8 (hx : p.tables.exec = Jvm.exec) (hb : c.code = cc) (hB : ∀ w ∈ kBIG, w.before args s = true) (hown : s.vm.findClass "StageClock" = some m.cls) (hK : va_K D kcl (kty cI cZ cG) s) (hI : kI D A H0 (kwC h ad cI cZ cG u) H locs) (hdg : decode cc pc = .ok (.getfield 37, 3)) (kk : W p l e R s m args below meth c H locs cells slots Q (F0 m (pc + 3) ls (.ref (ad 7) :: rest))) : W p l e R s m args below meth c H locs cells slots Q (F0 m pc ls (.ref h :: rest)) := va_get (D := D) (cl := kcl) (ws := kwC h ad cI cZ cG u) (ci := 0) (C := "StageClock") (T := T0) (N := 10) hx hb hB kin0 hown hK hI.1 0 rfl rfl 8 (by decide) (hB _ kw_29) (fun _ q => q) rfl hdg kk
theorem kC_g9 (hx : p.tables.exec = Jvm.exec) (hb : c.code = cc) (hB : ∀ w ∈ kBIG, w.before args s = true) (hown : s.vm.findClass "StageClock" = some m.cls) (hK : va_K D kcl (kty cI cZ cG) s) (hI : kI D A H0 (kwC h ad cI cZ cG u) H locs) (hdg : decode cc pc = .ok (.getfield 40, 3)) (kk : W p l e R s m args below meth c H locs cells slots Q (F0 m (pc + 3) ls (.int (u 15 0) :: rest))) : W p l e R s m args below meth c H locs cells slots Q (F0 m pc ls (.ref h :: rest)) := va_get (D := D) (cl := kcl) (ws := kwC h ad cI cZ cG u) (ci := 0) (C := "StageClock") (T := T0) (N := 10) hx hb hB kin0 hown hK hI.1 0 rfl rfl 9 (by decide) (hB _ kw_30) (fun _ q => q) rfl hdg kk
theorem kC_p9 (hx : p.tables.exec = Jvm.exec) (hb : c.code = cc) (hB : ∀ w ∈ kBIG, w.before args s = true) (hown : s.vm.findClass "StageClock" = some m.cls) (hK : va_K D kcl (kty cI cZ cG) s) (hI : kI D A H0 (kwC h ad cI cZ cG u) H locs) {x : Int32} (hdg : decode cc pc = .ok (.putfield 40, 3)) (kk : ∀ (H1 : Heap) (locs1 : List Loc), kI D A H0 (kwC h ad cI cZ cG (knum u 15 x)) H1 locs1 → W p l e R s m args below meth c H1 locs1 cells slots Q (F0 m (pc + 3) ls rest)) : W p l e R s m args below meth c H locs cells slots Q (F0 m pc ls (.int x :: .ref h :: rest)) := va_put (D := D) (cl := kcl) (ws := kwC h ad cI cZ cG u) (ci := 0) (v := .int x) (ty := .int) (C := "StageClock") (T := T0) (N := 10) hx hb hB kin0 ty0 ty0_ok nm0 hown hK hI.1 hI.2.1 hI.2.2 0 rfl rfl 9 (by decide) (hB _ kw_30) (fun _ q => q) rfl (by decide +kernel) rfl rfl (Nat.le_of_ble_eq_true rfl) hdg (fun H1 locs1 hP hD hS => kk H1 locs1 ⟨hP, hD, hS⟩)
theorem kC_l0 (hx : p.tables.exec = Jvm.exec) (hb : c.code = cc) (hK : va_K D kcl (kty cI cZ cG) s) (hI : kI D A H0 (kwC h ad cI cZ cG u) H locs) {i v : Int32} (k : Nat) (hk : k < 200) (he : i = nI k) (hv : u 0 k = v) (hdg : decode cc pc = .ok (.iaload, 1)) (kk : W p l e R s m args below meth c H locs cells slots Q (F0 m (pc + 1) ls (.int v :: rest))) : W p l e R s m args below meth c H locs cells slots Q (F0 m pc ls (.int i :: .ref (ad 0) :: rest)) := by
  subst he
  subst hv
  exact va_iald hx hb hK hI.1 1 0 rfl rfl (vp_in_nI hk (by decide)) hdg (by rw [nI_clamp (Nat.lt_trans hk (by decide))]; exact kk)
theorem kC_s0 (hx : p.tables.exec = Jvm.exec) (hb : c.code = cc) (hK : va_K D kcl (kty cI cZ cG) s) (hI : kI D A H0 (kwC h ad cI cZ cG u) H locs) {i x : Int32} (k : Nat) (hk : k < 200) (he : i = nI k) (hdg : decode cc pc = .ok (.iastore, 1)) (kk : ∀ (H1 : Heap) (locs1 : List Loc), kI D A H0 (kwC h ad cI cZ cG (kset u 0 k x)) H1 locs1 → W p l e R s m args below meth c H1 locs1 cells slots Q (F0 m (pc + 1) ls rest)) : W p l e R s m args below meth c H locs cells slots Q (F0 m pc ls (.int x :: .int i :: .ref (ad 0) :: rest)) := by
  subst he
  refine va_iast hx hb hK hI.1 hI.2.1 hI.2.2 1 0 rfl rfl (vp_in_nI hk (by decide)) hdg (fun H1 locs1 hP hD hS => ?_)
  rw [nI_clamp (Nat.lt_trans hk (by decide))] at hP hD
  exact kk H1 locs1 ⟨hP, hD, hS⟩
theorem kC_l1 (hx : p.tables.exec = Jvm.exec) (hb : c.code = cc) (hK : va_K D kcl (kty cI cZ cG) s) (hI : kI D A H0 (kwC h ad cI cZ cG u) H locs) {i v : Int32} (k : Nat) (hk : k < 200) (he : i = nI k) (hv : u 1 k = v) (hdg : decode cc pc = .ok (.iaload, 1)) (kk : W p l e R s m args below meth c H locs cells slots Q (F0 m (pc + 1) ls (.int v :: rest))) : W p l e R s m args below meth c H locs cells slots Q (F0 m pc ls (.int i :: .ref (ad 1) :: rest)) := by
  subst he
  subst hv
  exact va_iald hx hb hK hI.1 2 0 rfl rfl (vp_in_nI hk (by decide)) hdg (by rw [nI_clamp (Nat.lt_trans hk (by decide))]; exact kk)
theorem kC_s1 (hx : p.tables.exec = Jvm.exec) (hb : c.code = cc) (hK : va_K D kcl (kty cI cZ cG) s) (hI : kI D A H0 (kwC h ad cI cZ cG u) H locs) {i x : Int32} (k : Nat) (hk : k < 200) (he : i = nI k) (hdg : decode cc pc = .ok (.iastore, 1)) (kk : ∀ (H1 : Heap) (locs1 : List Loc), kI D A H0 (kwC h ad cI cZ cG (kset u 1 k x)) H1 locs1 → W p l e R s m args below meth c H1 locs1 cells slots Q (F0 m (pc + 1) ls rest)) : W p l e R s m args below meth c H locs cells slots Q (F0 m pc ls (.int x :: .int i :: .ref (ad 1) :: rest)) := by
  subst he
  refine va_iast hx hb hK hI.1 hI.2.1 hI.2.2 2 0 rfl rfl (vp_in_nI hk (by decide)) hdg (fun H1 locs1 hP hD hS => ?_)
  rw [nI_clamp (Nat.lt_trans hk (by decide))] at hP hD
  exact kk H1 locs1 ⟨hP, hD, hS⟩
theorem kC_l2 (hx : p.tables.exec = Jvm.exec) (hb : c.code = cc) (hK : va_K D kcl (kty cI cZ cG) s) (hI : kI D A H0 (kwC h ad cI cZ cG u) H locs) {i v : Int32} (k : Nat) (hk : k < 200) (he : i = nI k) (hv : u 2 k = v) (hdg : decode cc pc = .ok (.iaload, 1)) (kk : W p l e R s m args below meth c H locs cells slots Q (F0 m (pc + 1) ls (.int v :: rest))) : W p l e R s m args below meth c H locs cells slots Q (F0 m pc ls (.int i :: .ref (ad 2) :: rest)) := by
  subst he
  subst hv
  exact va_iald hx hb hK hI.1 3 0 rfl rfl (vp_in_nI hk (by decide)) hdg (by rw [nI_clamp (Nat.lt_trans hk (by decide))]; exact kk)
theorem kC_s2 (hx : p.tables.exec = Jvm.exec) (hb : c.code = cc) (hK : va_K D kcl (kty cI cZ cG) s) (hI : kI D A H0 (kwC h ad cI cZ cG u) H locs) {i x : Int32} (k : Nat) (hk : k < 200) (he : i = nI k) (hdg : decode cc pc = .ok (.iastore, 1)) (kk : ∀ (H1 : Heap) (locs1 : List Loc), kI D A H0 (kwC h ad cI cZ cG (kset u 2 k x)) H1 locs1 → W p l e R s m args below meth c H1 locs1 cells slots Q (F0 m (pc + 1) ls rest)) : W p l e R s m args below meth c H locs cells slots Q (F0 m pc ls (.int x :: .int i :: .ref (ad 2) :: rest)) := by
  subst he
  refine va_iast hx hb hK hI.1 hI.2.1 hI.2.2 3 0 rfl rfl (vp_in_nI hk (by decide)) hdg (fun H1 locs1 hP hD hS => ?_)
  rw [nI_clamp (Nat.lt_trans hk (by decide))] at hP hD
  exact kk H1 locs1 ⟨hP, hD, hS⟩
theorem kC_l3 (hx : p.tables.exec = Jvm.exec) (hb : c.code = cc) (hK : va_K D kcl (kty cI cZ cG) s) (hI : kI D A H0 (kwC h ad cI cZ cG u) H locs) {i v : Int32} (k : Nat) (hk : k < 200) (he : i = nI k) (hv : u 3 k = v) (hdg : decode cc pc = .ok (.iaload, 1)) (kk : W p l e R s m args below meth c H locs cells slots Q (F0 m (pc + 1) ls (.int v :: rest))) : W p l e R s m args below meth c H locs cells slots Q (F0 m pc ls (.int i :: .ref (ad 3) :: rest)) := by
  subst he
  subst hv
  exact va_iald hx hb hK hI.1 4 0 rfl rfl (vp_in_nI hk (by decide)) hdg (by rw [nI_clamp (Nat.lt_trans hk (by decide))]; exact kk)
theorem kC_s3 (hx : p.tables.exec = Jvm.exec) (hb : c.code = cc) (hK : va_K D kcl (kty cI cZ cG) s) (hI : kI D A H0 (kwC h ad cI cZ cG u) H locs) {i x : Int32} (k : Nat) (hk : k < 200) (he : i = nI k) (hdg : decode cc pc = .ok (.iastore, 1)) (kk : ∀ (H1 : Heap) (locs1 : List Loc), kI D A H0 (kwC h ad cI cZ cG (kset u 3 k x)) H1 locs1 → W p l e R s m args below meth c H1 locs1 cells slots Q (F0 m (pc + 1) ls rest)) : W p l e R s m args below meth c H locs cells slots Q (F0 m pc ls (.int x :: .int i :: .ref (ad 3) :: rest)) := by
  subst he
  refine va_iast hx hb hK hI.1 hI.2.1 hI.2.2 4 0 rfl rfl (vp_in_nI hk (by decide)) hdg (fun H1 locs1 hP hD hS => ?_)
  rw [nI_clamp (Nat.lt_trans hk (by decide))] at hP hD
  exact kk H1 locs1 ⟨hP, hD, hS⟩
theorem kC_l4 (hx : p.tables.exec = Jvm.exec) (hb : c.code = cc) (hK : va_K D kcl (kty cI cZ cG) s) (hI : kI D A H0 (kwC h ad cI cZ cG u) H locs) {i v : Int32} (k : Nat) (hk : k < 200) (he : i = nI k) (hv : u 4 k = v) (hdg : decode cc pc = .ok (.baload, 1)) (kk : W p l e R s m args below meth c H locs cells slots Q (F0 m (pc + 1) ls (.int v :: rest))) : W p l e R s m args below meth c H locs cells slots Q (F0 m pc ls (.int i :: .ref (ad 4) :: rest)) := by
  subst he
  subst hv
  exact va_zald hx hb hK hI.1 5 1 rfl rfl (vp_in_nI hk (by decide)) hdg (by rw [nI_clamp (Nat.lt_trans hk (by decide))]; exact kk)
theorem kC_s4 (hx : p.tables.exec = Jvm.exec) (hb : c.code = cc) (hK : va_K D kcl (kty cI cZ cG) s) (hI : kI D A H0 (kwC h ad cI cZ cG u) H locs) {i x : Int32} (k : Nat) (hk : k < 200) (he : i = nI k) (hn : vp_nar .boolean x = x) (hdg : decode cc pc = .ok (.bastore, 1)) (kk : ∀ (H1 : Heap) (locs1 : List Loc), kI D A H0 (kwC h ad cI cZ cG (kset u 4 k x)) H1 locs1 → W p l e R s m args below meth c H1 locs1 cells slots Q (F0 m (pc + 1) ls rest)) : W p l e R s m args below meth c H locs cells slots Q (F0 m pc ls (.int x :: .int i :: .ref (ad 4) :: rest)) := by
  subst he
  refine va_zast hx hb hK hI.1 hI.2.1 hI.2.2 5 1 rfl rfl (vp_in_nI hk (by decide)) hdg (fun H1 locs1 hP hD hS => ?_)
  rw [nI_clamp (Nat.lt_trans hk (by decide)), hn] at hP hD
  exact kk H1 locs1 ⟨hP, hD, hS⟩
theorem kC_l5 (hx : p.tables.exec = Jvm.exec) (hb : c.code = cc) (hK : va_K D kcl (kty cI cZ cG) s) (hI : kI D A H0 (kwC h ad cI cZ cG u) H locs) {i v : Int32} (k : Nat) (hk : k < 200) (he : i = nI k) (hv : u 5 k = v) (hdg : decode cc pc = .ok (.iaload, 1)) (kk : W p l e R s m args below meth c H locs cells slots Q (F0 m (pc + 1) ls (.int v :: rest))) : W p l e R s m args below meth c H locs cells slots Q (F0 m pc ls (.int i :: .ref (ad 5) :: rest)) := by
  subst he
  subst hv
  exact va_iald hx hb hK hI.1 6 0 rfl rfl (vp_in_nI hk (by decide)) hdg (by rw [nI_clamp (Nat.lt_trans hk (by decide))]; exact kk)
theorem kC_s5 (hx : p.tables.exec = Jvm.exec) (hb : c.code = cc) (hK : va_K D kcl (kty cI cZ cG) s) (hI : kI D A H0 (kwC h ad cI cZ cG u) H locs) {i x : Int32} (k : Nat) (hk : k < 200) (he : i = nI k) (hdg : decode cc pc = .ok (.iastore, 1)) (kk : ∀ (H1 : Heap) (locs1 : List Loc), kI D A H0 (kwC h ad cI cZ cG (kset u 5 k x)) H1 locs1 → W p l e R s m args below meth c H1 locs1 cells slots Q (F0 m (pc + 1) ls rest)) : W p l e R s m args below meth c H locs cells slots Q (F0 m pc ls (.int x :: .int i :: .ref (ad 5) :: rest)) := by
  subst he
  refine va_iast hx hb hK hI.1 hI.2.1 hI.2.2 6 0 rfl rfl (vp_in_nI hk (by decide)) hdg (fun H1 locs1 hP hD hS => ?_)
  rw [nI_clamp (Nat.lt_trans hk (by decide))] at hP hD
  exact kk H1 locs1 ⟨hP, hD, hS⟩
theorem kC_l6 (hx : p.tables.exec = Jvm.exec) (hb : c.code = cc) (hK : va_K D kcl (kty cI cZ cG) s) (hI : kI D A H0 (kwC h ad cI cZ cG u) H locs) {i v : Int32} (k : Nat) (hk : k < 200) (he : i = nI k) (hv : u 6 k = v) (hdg : decode cc pc = .ok (.baload, 1)) (kk : W p l e R s m args below meth c H locs cells slots Q (F0 m (pc + 1) ls (.int v :: rest))) : W p l e R s m args below meth c H locs cells slots Q (F0 m pc ls (.int i :: .ref (ad 6) :: rest)) := by
  subst he
  subst hv
  exact va_zald hx hb hK hI.1 7 1 rfl rfl (vp_in_nI hk (by decide)) hdg (by rw [nI_clamp (Nat.lt_trans hk (by decide))]; exact kk)
theorem kC_s6 (hx : p.tables.exec = Jvm.exec) (hb : c.code = cc) (hK : va_K D kcl (kty cI cZ cG) s) (hI : kI D A H0 (kwC h ad cI cZ cG u) H locs) {i x : Int32} (k : Nat) (hk : k < 200) (he : i = nI k) (hn : vp_nar .boolean x = x) (hdg : decode cc pc = .ok (.bastore, 1)) (kk : ∀ (H1 : Heap) (locs1 : List Loc), kI D A H0 (kwC h ad cI cZ cG (kset u 6 k x)) H1 locs1 → W p l e R s m args below meth c H1 locs1 cells slots Q (F0 m (pc + 1) ls rest)) : W p l e R s m args below meth c H locs cells slots Q (F0 m pc ls (.int x :: .int i :: .ref (ad 6) :: rest)) := by
  subst he
  refine va_zast hx hb hK hI.1 hI.2.1 hI.2.2 7 1 rfl rfl (vp_in_nI hk (by decide)) hdg (fun H1 locs1 hP hD hS => ?_)
  rw [nI_clamp (Nat.lt_trans hk (by decide)), hn] at hP hD
  exact kk H1 locs1 ⟨hP, hD, hS⟩
theorem kC_l7 (hx : p.tables.exec = Jvm.exec) (hb : c.code = cc) (hK : va_K D kcl (kty cI cZ cG) s) (hI : kI D A H0 (kwC h ad cI cZ cG u) H locs) {i v : Int32} (k : Nat) (hk : k < 16) (he : i = nI k) (hv : u 7 k = v) (hdg : decode cc pc = .ok (.iaload, 1)) (kk : W p l e R s m args below meth c H locs cells slots Q (F0 m (pc + 1) ls (.int v :: rest))) : W p l e R s m args below meth c H locs cells slots Q (F0 m pc ls (.int i :: .ref (ad 7) :: rest)) := by
  subst he
  subst hv
  exact va_iald hx hb hK hI.1 8 0 rfl rfl (vp_in_nI hk (by decide)) hdg (by rw [nI_clamp (Nat.lt_trans hk (by decide))]; exact kk)
theorem kC_s7 (hx : p.tables.exec = Jvm.exec) (hb : c.code = cc) (hK : va_K D kcl (kty cI cZ cG) s) (hI : kI D A H0 (kwC h ad cI cZ cG u) H locs) {i x : Int32} (k : Nat) (hk : k < 16) (he : i = nI k) (hdg : decode cc pc = .ok (.iastore, 1)) (kk : ∀ (H1 : Heap) (locs1 : List Loc), kI D A H0 (kwC h ad cI cZ cG (kset u 7 k x)) H1 locs1 → W p l e R s m args below meth c H1 locs1 cells slots Q (F0 m (pc + 1) ls rest)) : W p l e R s m args below meth c H locs cells slots Q (F0 m pc ls (.int x :: .int i :: .ref (ad 7) :: rest)) := by
  subst he
  refine va_iast hx hb hK hI.1 hI.2.1 hI.2.2 8 0 rfl rfl (vp_in_nI hk (by decide)) hdg (fun H1 locs1 hP hD hS => ?_)
  rw [nI_clamp (Nat.lt_trans hk (by decide))] at hP hD
  exact kk H1 locs1 ⟨hP, hD, hS⟩
theorem kC_l8 (hx : p.tables.exec = Jvm.exec) (hb : c.code = cc) (hK : va_K D kcl (kty cI cZ cG) s) (hI : kI D A H0 (kwC h ad cI cZ cG u) H locs) {i v : Int32} (k : Nat) (hk : k < 200) (he : i = nI k) (hv : u 8 k = v) (hdg : decode cc pc = .ok (.iaload, 1)) (kk : W p l e R s m args below meth c H locs cells slots Q (F0 m (pc + 1) ls (.int v :: rest))) : W p l e R s m args below meth c H locs cells slots Q (F0 m pc ls (.int i :: .ref (ad 8) :: rest)) := by
  subst he
  subst hv
  exact va_iald hx hb hK hI.1 9 0 rfl rfl (vp_in_nI hk (by decide)) hdg (by rw [nI_clamp (Nat.lt_trans hk (by decide))]; exact kk)
theorem kC_s8 (hx : p.tables.exec = Jvm.exec) (hb : c.code = cc) (hK : va_K D kcl (kty cI cZ cG) s) (hI : kI D A H0 (kwC h ad cI cZ cG u) H locs) {i x : Int32} (k : Nat) (hk : k < 200) (he : i = nI k) (hdg : decode cc pc = .ok (.iastore, 1)) (kk : ∀ (H1 : Heap) (locs1 : List Loc), kI D A H0 (kwC h ad cI cZ cG (kset u 8 k x)) H1 locs1 → W p l e R s m args below meth c H1 locs1 cells slots Q (F0 m (pc + 1) ls rest)) : W p l e R s m args below meth c H locs cells slots Q (F0 m pc ls (.int x :: .int i :: .ref (ad 8) :: rest)) := by
  subst he
  refine va_iast hx hb hK hI.1 hI.2.1 hI.2.2 9 0 rfl rfl (vp_in_nI hk (by decide)) hdg (fun H1 locs1 hP hD hS => ?_)
  rw [nI_clamp (Nat.lt_trans hk (by decide))] at hP hD
  exact kk H1 locs1 ⟨hP, hD, hS⟩
theorem kC_l9 (hx : p.tables.exec = Jvm.exec) (hb : c.code = cc) (hK : va_K D kcl (kty cI cZ cG) s) (hI : kI D A H0 (kwC h ad cI cZ cG u) H locs) {i v : Int32} (k : Nat) (hk : k < 200) (he : i = nI k) (hv : u 9 k = v) (hdg : decode cc pc = .ok (.iaload, 1)) (kk : W p l e R s m args below meth c H locs cells slots Q (F0 m (pc + 1) ls (.int v :: rest))) : W p l e R s m args below meth c H locs cells slots Q (F0 m pc ls (.int i :: .ref (ad 9) :: rest)) := by
  subst he
  subst hv
  exact va_iald hx hb hK hI.1 10 0 rfl rfl (vp_in_nI hk (by decide)) hdg (by rw [nI_clamp (Nat.lt_trans hk (by decide))]; exact kk)
theorem kC_s9 (hx : p.tables.exec = Jvm.exec) (hb : c.code = cc) (hK : va_K D kcl (kty cI cZ cG) s) (hI : kI D A H0 (kwC h ad cI cZ cG u) H locs) {i x : Int32} (k : Nat) (hk : k < 200) (he : i = nI k) (hdg : decode cc pc = .ok (.iastore, 1)) (kk : ∀ (H1 : Heap) (locs1 : List Loc), kI D A H0 (kwC h ad cI cZ cG (kset u 9 k x)) H1 locs1 → W p l e R s m args below meth c H1 locs1 cells slots Q (F0 m (pc + 1) ls rest)) : W p l e R s m args below meth c H locs cells slots Q (F0 m pc ls (.int x :: .int i :: .ref (ad 9) :: rest)) := by
  subst he
  refine va_iast hx hb hK hI.1 hI.2.1 hI.2.2 10 0 rfl rfl (vp_in_nI hk (by decide)) hdg (fun H1 locs1 hP hD hS => ?_)
  rw [nI_clamp (Nat.lt_trans hk (by decide))] at hP hD
  exact kk H1 locs1 ⟨hP, hD, hS⟩
theorem kC_l10 (hx : p.tables.exec = Jvm.exec) (hb : c.code = cc) (hK : va_K D kcl (kty cI cZ cG) s) (hI : kI D A H0 (kwC h ad cI cZ cG u) H locs) {i v : Int32} (k : Nat) (hk : k < 200) (he : i = nI k) (hv : u 10 k = v) (hdg : decode cc pc = .ok (.iaload, 1)) (kk : W p l e R s m args below meth c H locs cells slots Q (F0 m (pc + 1) ls (.int v :: rest))) : W p l e R s m args below meth c H locs cells slots Q (F0 m pc ls (.int i :: .ref (ad 10) :: rest)) := by
  subst he
  subst hv
  exact va_iald hx hb hK hI.1 11 0 rfl rfl (vp_in_nI hk (by decide)) hdg (by rw [nI_clamp (Nat.lt_trans hk (by decide))]; exact kk)
theorem kC_s10 (hx : p.tables.exec = Jvm.exec) (hb : c.code = cc) (hK : va_K D kcl (kty cI cZ cG) s) (hI : kI D A H0 (kwC h ad cI cZ cG u) H locs) {i x : Int32} (k : Nat) (hk : k < 200) (he : i = nI k) (hdg : decode cc pc = .ok (.iastore, 1)) (kk : ∀ (H1 : Heap) (locs1 : List Loc), kI D A H0 (kwC h ad cI cZ cG (kset u 10 k x)) H1 locs1 → W p l e R s m args below meth c H1 locs1 cells slots Q (F0 m (pc + 1) ls rest)) : W p l e R s m args below meth c H locs cells slots Q (F0 m pc ls (.int x :: .int i :: .ref (ad 10) :: rest)) := by
  subst he
  refine va_iast hx hb hK hI.1 hI.2.1 hI.2.2 11 0 rfl rfl (vp_in_nI hk (by decide)) hdg (fun H1 locs1 hP hD hS => ?_)
  rw [nI_clamp (Nat.lt_trans hk (by decide))] at hP hD
  exact kk H1 locs1 ⟨hP, hD, hS⟩
theorem kC_l11 (hx : p.tables.exec = Jvm.exec) (hb : c.code = cc) (hK : va_K D kcl (kty cI cZ cG) s) (hI : kI D A H0 (kwC h ad cI cZ cG u) H locs) {i v : Int32} (k : Nat) (hk : k < 200) (he : i = nI k) (hv : u 11 k = v) (hdg : decode cc pc = .ok (.iaload, 1)) (kk : W p l e R s m args below meth c H locs cells slots Q (F0 m (pc + 1) ls (.int v :: rest))) : W p l e R s m args below meth c H locs cells slots Q (F0 m pc ls (.int i :: .ref (ad 11) :: rest)) := by
  subst he
  subst hv
  exact va_iald hx hb hK hI.1 12 0 rfl rfl (vp_in_nI hk (by decide)) hdg (by rw [nI_clamp (Nat.lt_trans hk (by decide))]; exact kk)
theorem kC_s11 (hx : p.tables.exec = Jvm.exec) (hb : c.code = cc) (hK : va_K D kcl (kty cI cZ cG) s) (hI : kI D A H0 (kwC h ad cI cZ cG u) H locs) {i x : Int32} (k : Nat) (hk : k < 200) (he : i = nI k) (hdg : decode cc pc = .ok (.iastore, 1)) (kk : ∀ (H1 : Heap) (locs1 : List Loc), kI D A H0 (kwC h ad cI cZ cG (kset u 11 k x)) H1 locs1 → W p l e R s m args below meth c H1 locs1 cells slots Q (F0 m (pc + 1) ls rest)) : W p l e R s m args below meth c H locs cells slots Q (F0 m pc ls (.int x :: .int i :: .ref (ad 11) :: rest)) := by
  subst he
  refine va_iast hx hb hK hI.1 hI.2.1 hI.2.2 12 0 rfl rfl (vp_in_nI hk (by decide)) hdg (fun H1 locs1 hP hD hS => ?_)
  rw [nI_clamp (Nat.lt_trans hk (by decide))] at hP hD
  exact kk H1 locs1 ⟨hP, hD, hS⟩
theorem kC_l12 (hx : p.tables.exec = Jvm.exec) (hb : c.code = cc) (hK : va_K D kcl (kty cI cZ cG) s) (hI : kI D A H0 (kwC h ad cI cZ cG u) H locs) {i v : Int32} (k : Nat) (hk : k < 200) (he : i = nI k) (hv : u 12 k = v) (hdg : decode cc pc = .ok (.iaload, 1)) (kk : W p l e R s m args below meth c H locs cells slots Q (F0 m (pc + 1) ls (.int v :: rest))) : W p l e R s m args below meth c H locs cells slots Q (F0 m pc ls (.int i :: .ref (ad 12) :: rest)) := by
  subst he
  subst hv
  exact va_iald hx hb hK hI.1 13 0 rfl rfl (vp_in_nI hk (by decide)) hdg (by rw [nI_clamp (Nat.lt_trans hk (by decide))]; exact kk)
theorem kC_s12 (hx : p.tables.exec = Jvm.exec) (hb : c.code = cc) (hK : va_K D kcl (kty cI cZ cG) s) (hI : kI D A H0 (kwC h ad cI cZ cG u) H locs) {i x : Int32} (k : Nat) (hk : k < 200) (he : i = nI k) (hdg : decode cc pc = .ok (.iastore, 1)) (kk : ∀ (H1 : Heap) (locs1 : List Loc), kI D A H0 (kwC h ad cI cZ cG (kset u 12 k x)) H1 locs1 → W p l e R s m args below meth c H1 locs1 cells slots Q (F0 m (pc + 1) ls rest)) : W p l e R s m args below meth c H locs cells slots Q (F0 m pc ls (.int x :: .int i :: .ref (ad 12) :: rest)) := by
  subst he
  refine va_iast hx hb hK hI.1 hI.2.1 hI.2.2 13 0 rfl rfl (vp_in_nI hk (by decide)) hdg (fun H1 locs1 hP hD hS => ?_)
  rw [nI_clamp (Nat.lt_trans hk (by decide))] at hP hD
  exact kk H1 locs1 ⟨hP, hD, hS⟩
theorem kC_l13 (hx : p.tables.exec = Jvm.exec) (hb : c.code = cc) (hK : va_K D kcl (kty cI cZ cG) s) (hI : kI D A H0 (kwC h ad cI cZ cG u) H locs) {i v : Int32} (k : Nat) (hk : k < 200) (he : i = nI k) (hv : u 13 k = v) (hdg : decode cc pc = .ok (.iaload, 1)) (kk : W p l e R s m args below meth c H locs cells slots Q (F0 m (pc + 1) ls (.int v :: rest))) : W p l e R s m args below meth c H locs cells slots Q (F0 m pc ls (.int i :: .ref (ad 13) :: rest)) := by
  subst he
  subst hv
  exact va_iald hx hb hK hI.1 14 0 rfl rfl (vp_in_nI hk (by decide)) hdg (by rw [nI_clamp (Nat.lt_trans hk (by decide))]; exact kk)
theorem kC_s13 (hx : p.tables.exec = Jvm.exec) (hb : c.code = cc) (hK : va_K D kcl (kty cI cZ cG) s) (hI : kI D A H0 (kwC h ad cI cZ cG u) H locs) {i x : Int32} (k : Nat) (hk : k < 200) (he : i = nI k) (hdg : decode cc pc = .ok (.iastore, 1)) (kk : ∀ (H1 : Heap) (locs1 : List Loc), kI D A H0 (kwC h ad cI cZ cG (kset u 13 k x)) H1 locs1 → W p l e R s m args below meth c H1 locs1 cells slots Q (F0 m (pc + 1) ls rest)) : W p l e R s m args below meth c H locs cells slots Q (F0 m pc ls (.int x :: .int i :: .ref (ad 13) :: rest)) := by
  subst he
  refine va_iast hx hb hK hI.1 hI.2.1 hI.2.2 14 0 rfl rfl (vp_in_nI hk (by decide)) hdg (fun H1 locs1 hP hD hS => ?_)
  rw [nI_clamp (Nat.lt_trans hk (by decide))] at hP hD
  exact kk H1 locs1 ⟨hP, hD, hS⟩
theorem kC_l14 (hx : p.tables.exec = Jvm.exec) (hb : c.code = cc) (hK : va_K D kcl (kty cI cZ cG) s) (hI : kI D A H0 (kwC h ad cI cZ cG u) H locs) {i v : Int32} (k : Nat) (hk : k < 200) (he : i = nI k) (hv : u 14 k = v) (hdg : decode cc pc = .ok (.iaload, 1)) (kk : W p l e R s m args below meth c H locs cells slots Q (F0 m (pc + 1) ls (.int v :: rest))) : W p l e R s m args below meth c H locs cells slots Q (F0 m pc ls (.int i :: .ref (ad 14) :: rest)) := by
  subst he
  subst hv
  exact va_iald hx hb hK hI.1 15 0 rfl rfl (vp_in_nI hk (by decide)) hdg (by rw [nI_clamp (Nat.lt_trans hk (by decide))]; exact kk)
theorem kC_s14 (hx : p.tables.exec = Jvm.exec) (hb : c.code = cc) (hK : va_K D kcl (kty cI cZ cG) s) (hI : kI D A H0 (kwC h ad cI cZ cG u) H locs) {i x : Int32} (k : Nat) (hk : k < 200) (he : i = nI k) (hdg : decode cc pc = .ok (.iastore, 1)) (kk : ∀ (H1 : Heap) (locs1 : List Loc), kI D A H0 (kwC h ad cI cZ cG (kset u 14 k x)) H1 locs1 → W p l e R s m args below meth c H1 locs1 cells slots Q (F0 m (pc + 1) ls rest)) : W p l e R s m args below meth c H locs cells slots Q (F0 m pc ls (.int x :: .int i :: .ref (ad 14) :: rest)) := by
  subst he
  refine va_iast hx hb hK hI.1 hI.2.1 hI.2.2 15 0 rfl rfl (vp_in_nI hk (by decide)) hdg (fun H1 locs1 hP hD hS => ?_)
  rw [nI_clamp (Nat.lt_trans hk (by decide))] at hP hD
  exact kk H1 locs1 ⟨hP, hD, hS⟩
theorem kM_g0 (hx : p.tables.exec = Jvm.exec) (hb : c.code = cc) (hB : ∀ w ∈ kBIG, w.before args s = true) (hown : s.vm.findClass "StageClockModel" = some m.cls) (hK : va_K D kcl (kty cI cZ cG) s) (hI : kI D A H0 (kwM h ad cI cZ u) H locs) (hdg : decode cc pc = .ok (.getfield 47, 3)) (kk : W p l e R s m args below meth c H locs cells slots Q (F0 m (pc + 3) ls (.int (u 12 0) :: rest))) : W p l e R s m args below meth c H locs cells slots Q (F0 m pc ls (.ref h :: rest)) := va_get (D := D) (cl := kcl) (ws := kwM h ad cI cZ u) (ci := 1) (C := "StageClockModel") (T := T1) (N := 15) hx hb hB kin1 hown hK hI.1 0 rfl rfl 0 (by decide) (hB _ kw_287) (fun _ q => q) rfl hdg kk
theorem kM_g1 (hx : p.tables.exec = Jvm.exec) (hb : c.code = cc) (hB : ∀ w ∈ kBIG, w.before args s = true) (hown : s.vm.findClass "StageClockModel" = some m.cls) (hK : va_K D kcl (kty cI cZ cG) s) (hI : kI D A H0 (kwM h ad cI cZ u) H locs) (hdg : decode cc pc = .ok (.getfield 7, 3)) (kk : W p l e R s m args below meth c H locs cells slots Q (F0 m (pc + 3) ls (.ref (ad 0) :: rest))) : W p l e R s m args below meth c H locs cells slots Q (F0 m pc ls (.ref h :: rest)) := va_get (D := D) (cl := kcl) (ws := kwM h ad cI cZ u) (ci := 1) (C := "StageClockModel") (T := T1) (N := 15) hx hb hB kin1 hown hK hI.1 0 rfl rfl 1 (by decide) (hB _ kw_288) (fun _ q => q) rfl hdg kk
theorem kM_g2 (hx : p.tables.exec = Jvm.exec) (hb : c.code = cc) (hB : ∀ w ∈ kBIG, w.before args s = true) (hown : s.vm.findClass "StageClockModel" = some m.cls) (hK : va_K D kcl (kty cI cZ cG) s) (hI : kI D A H0 (kwM h ad cI cZ u) H locs) (hdg : decode cc pc = .ok (.getfield 13, 3)) (kk : W p l e R s m args below meth c H locs cells slots Q (F0 m (pc + 3) ls (.ref (ad 1) :: rest))) : W p l e R s m args below meth c H locs cells slots Q (F0 m pc ls (.ref h :: rest)) := va_get (D := D) (cl := kcl) (ws := kwM h ad cI cZ u) (ci := 1) (C := "StageClockModel") (T := T1) (N := 15) hx hb hB kin1 hown hK hI.1 0 rfl rfl 2 (by decide) (hB _ kw_289) (fun _ q => q) rfl hdg kk
theorem kM_g3 (hx : p.tables.exec = Jvm.exec) (hb : c.code = cc) (hB : ∀ w ∈ kBIG, w.before args s = true) (hown : s.vm.findClass "StageClockModel" = some m.cls) (hK : va_K D kcl (kty cI cZ cG) s) (hI : kI D A H0 (kwM h ad cI cZ u) H locs) (hdg : decode cc pc = .ok (.getfield 16, 3)) (kk : W p l e R s m args below meth c H locs cells slots Q (F0 m (pc + 3) ls (.ref (ad 2) :: rest))) : W p l e R s m args below meth c H locs cells slots Q (F0 m pc ls (.ref h :: rest)) := va_get (D := D) (cl := kcl) (ws := kwM h ad cI cZ u) (ci := 1) (C := "StageClockModel") (T := T1) (N := 15) hx hb hB kin1 hown hK hI.1 0 rfl rfl 3 (by decide) (hB _ kw_290) (fun _ q => q) rfl hdg kk
theorem kM_g4 (hx : p.tables.exec = Jvm.exec) (hb : c.code = cc) (hB : ∀ w ∈ kBIG, w.before args s = true) (hown : s.vm.findClass "StageClockModel" = some m.cls) (hK : va_K D kcl (kty cI cZ cG) s) (hI : kI D A H0 (kwM h ad cI cZ u) H locs) (hdg : decode cc pc = .ok (.getfield 19, 3)) (kk : W p l e R s m args below meth c H locs cells slots Q (F0 m (pc + 3) ls (.ref (ad 3) :: rest))) : W p l e R s m args below meth c H locs cells slots Q (F0 m pc ls (.ref h :: rest)) := va_get (D := D) (cl := kcl) (ws := kwM h ad cI cZ u) (ci := 1) (C := "StageClockModel") (T := T1) (N := 15) hx hb hB kin1 hown hK hI.1 0 rfl rfl 4 (by decide) (hB _ kw_291) (fun _ q => q) rfl hdg kk
theorem kM_g5 (hx : p.tables.exec = Jvm.exec) (hb : c.code = cc) (hB : ∀ w ∈ kBIG, w.before args s = true) (hown : s.vm.findClass "StageClockModel" = some m.cls) (hK : va_K D kcl (kty cI cZ cG) s) (hI : kI D A H0 (kwM h ad cI cZ u) H locs) (hdg : decode cc pc = .ok (.getfield 22, 3)) (kk : W p l e R s m args below meth c H locs cells slots Q (F0 m (pc + 3) ls (.ref (ad 4) :: rest))) : W p l e R s m args below meth c H locs cells slots Q (F0 m pc ls (.ref h :: rest)) := va_get (D := D) (cl := kcl) (ws := kwM h ad cI cZ u) (ci := 1) (C := "StageClockModel") (T := T1) (N := 15) hx hb hB kin1 hown hK hI.1 0 rfl rfl 5 (by decide) (hB _ kw_292) (fun _ q => q) rfl hdg kk
theorem kM_g6 (hx : p.tables.exec = Jvm.exec) (hb : c.code = cc) (hB : ∀ w ∈ kBIG, w.before args s = true) (hown : s.vm.findClass "StageClockModel" = some m.cls) (hK : va_K D kcl (kty cI cZ cG) s) (hI : kI D A H0 (kwM h ad cI cZ u) H locs) (hdg : decode cc pc = .ok (.getfield 25, 3)) (kk : W p l e R s m args below meth c H locs cells slots Q (F0 m (pc + 3) ls (.ref (ad 5) :: rest))) : W p l e R s m args below meth c H locs cells slots Q (F0 m pc ls (.ref h :: rest)) := va_get (D := D) (cl := kcl) (ws := kwM h ad cI cZ u) (ci := 1) (C := "StageClockModel") (T := T1) (N := 15) hx hb hB kin1 hown hK hI.1 0 rfl rfl 6 (by decide) (hB _ kw_293) (fun _ q => q) rfl hdg kk
theorem kM_g7 (hx : p.tables.exec = Jvm.exec) (hb : c.code = cc) (hB : ∀ w ∈ kBIG, w.before args s = true) (hown : s.vm.findClass "StageClockModel" = some m.cls) (hK : va_K D kcl (kty cI cZ cG) s) (hI : kI D A H0 (kwM h ad cI cZ u) H locs) (hdg : decode cc pc = .ok (.getfield 29, 3)) (kk : W p l e R s m args below meth c H locs cells slots Q (F0 m (pc + 3) ls (.ref (ad 6) :: rest))) : W p l e R s m args below meth c H locs cells slots Q (F0 m pc ls (.ref h :: rest)) := va_get (D := D) (cl := kcl) (ws := kwM h ad cI cZ u) (ci := 1) (C := "StageClockModel") (T := T1) (N := 15) hx hb hB kin1 hown hK hI.1 0 rfl rfl 7 (by decide) (hB _ kw_294) (fun _ q => q) rfl hdg kk
theorem kM_g8 (hx : p.tables.exec = Jvm.exec) (hb : c.code = cc) (hB : ∀ w ∈ kBIG, w.before args s = true) (hown : s.vm.findClass "StageClockModel" = some m.cls) (hK : va_K D kcl (kty cI cZ cG) s) (hI : kI D A H0 (kwM h ad cI cZ u) H locs) (hdg : decode cc pc = .ok (.getfield 32, 3)) (kk : W p l e R s m args below meth c H locs cells slots Q (F0 m (pc + 3) ls (.ref (ad 7) :: rest))) : W p l e R s m args below meth c H locs cells slots Q (F0 m pc ls (.ref h :: rest)) := va_get (D := D) (cl := kcl) (ws := kwM h ad cI cZ u) (ci := 1) (C := "StageClockModel") (T := T1) (N := 15) hx hb hB kin1 hown hK hI.1 0 rfl rfl 8 (by decide) (hB _ kw_295) (fun _ q => q) rfl hdg kk
theorem kM_g9 (hx : p.tables.exec = Jvm.exec) (hb : c.code = cc) (hB : ∀ w ∈ kBIG, w.before args s = true) (hown : s.vm.findClass "StageClockModel" = some m.cls) (hK : va_K D kcl (kty cI cZ cG) s) (hI : kI D A H0 (kwM h ad cI cZ u) H locs) (hdg : decode cc pc = .ok (.getfield 35, 3)) (kk : W p l e R s m args below meth c H locs cells slots Q (F0 m (pc + 3) ls (.ref (ad 8) :: rest))) : W p l e R s m args below meth c H locs cells slots Q (F0 m pc ls (.ref h :: rest)) := va_get (D := D) (cl := kcl) (ws := kwM h ad cI cZ u) (ci := 1) (C := "StageClockModel") (T := T1) (N := 15) hx hb hB kin1 hown hK hI.1 0 rfl rfl 9 (by decide) (hB _ kw_296) (fun _ q => q) rfl hdg kk
theorem kM_g10 (hx : p.tables.exec = Jvm.exec) (hb : c.code = cc) (hB : ∀ w ∈ kBIG, w.before args s = true) (hown : s.vm.findClass "StageClockModel" = some m.cls) (hK : va_K D kcl (kty cI cZ cG) s) (hI : kI D A H0 (kwM h ad cI cZ u) H locs) (hdg : decode cc pc = .ok (.getfield 38, 3)) (kk : W p l e R s m args below meth c H locs cells slots Q (F0 m (pc + 3) ls (.ref (ad 9) :: rest))) : W p l e R s m args below meth c H locs cells slots Q (F0 m pc ls (.ref h :: rest)) := va_get (D := D) (cl := kcl) (ws := kwM h ad cI cZ u) (ci := 1) (C := "StageClockModel") (T := T1) (N := 15) hx hb hB kin1 hown hK hI.1 0 rfl rfl 10 (by decide) (hB _ kw_297) (fun _ q => q) rfl hdg kk
theorem kM_g11 (hx : p.tables.exec = Jvm.exec) (hb : c.code = cc) (hB : ∀ w ∈ kBIG, w.before args s = true) (hown : s.vm.findClass "StageClockModel" = some m.cls) (hK : va_K D kcl (kty cI cZ cG) s) (hI : kI D A H0 (kwM h ad cI cZ u) H locs) (hdg : decode cc pc = .ok (.getfield 41, 3)) (kk : W p l e R s m args below meth c H locs cells slots Q (F0 m (pc + 3) ls (.ref (ad 10) :: rest))) : W p l e R s m args below meth c H locs cells slots Q (F0 m pc ls (.ref h :: rest)) := va_get (D := D) (cl := kcl) (ws := kwM h ad cI cZ u) (ci := 1) (C := "StageClockModel") (T := T1) (N := 15) hx hb hB kin1 hown hK hI.1 0 rfl rfl 11 (by decide) (hB _ kw_298) (fun _ q => q) rfl hdg kk
theorem kM_g12 (hx : p.tables.exec = Jvm.exec) (hb : c.code = cc) (hB : ∀ w ∈ kBIG, w.before args s = true) (hown : s.vm.findClass "StageClockModel" = some m.cls) (hK : va_K D kcl (kty cI cZ cG) s) (hI : kI D A H0 (kwM h ad cI cZ u) H locs) (hdg : decode cc pc = .ok (.getfield 44, 3)) (kk : W p l e R s m args below meth c H locs cells slots Q (F0 m (pc + 3) ls (.ref (ad 11) :: rest))) : W p l e R s m args below meth c H locs cells slots Q (F0 m pc ls (.ref h :: rest)) := va_get (D := D) (cl := kcl) (ws := kwM h ad cI cZ u) (ci := 1) (C := "StageClockModel") (T := T1) (N := 15) hx hb hB kin1 hown hK hI.1 0 rfl rfl 12 (by decide) (hB _ kw_299) (fun _ q => q) rfl hdg kk
theorem kM_g13 (hx : p.tables.exec = Jvm.exec) (hb : c.code = cc) (hB : ∀ w ∈ kBIG, w.before args s = true) (hown : s.vm.findClass "StageClockModel" = some m.cls) (hK : va_K D kcl (kty cI cZ cG) s) (hI : kI D A H0 (kwM h ad cI cZ u) H locs) (hdg : decode cc pc = .ok (.getfield 62, 3)) (kk : W p l e R s m args below meth c H locs cells slots Q (F0 m (pc + 3) ls (.int (u 13 0) :: rest))) : W p l e R s m args below meth c H locs cells slots Q (F0 m pc ls (.ref h :: rest)) := va_get (D := D) (cl := kcl) (ws := kwM h ad cI cZ u) (ci := 1) (C := "StageClockModel") (T := T1) (N := 15) hx hb hB kin1 hown hK hI.1 0 rfl rfl 13 (by decide) (hB _ kw_300) (fun _ q => q) rfl hdg kk
theorem kM_g14 (hx : p.tables.exec = Jvm.exec) (hb : c.code = cc) (hB : ∀ w ∈ kBIG, w.before args s = true) (hown : s.vm.findClass "StageClockModel" = some m.cls) (hK : va_K D kcl (kty cI cZ cG) s) (hI : kI D A H0 (kwM h ad cI cZ u) H locs) (hdg : decode cc pc = .ok (.getfield 51, 3)) (kk : W p l e R s m args below meth c H locs cells slots Q (F0 m (pc + 3) ls (.int (u 14 0) :: rest))) : W p l e R s m args below meth c H locs cells slots Q (F0 m pc ls (.ref h :: rest)) := va_get (D := D) (cl := kcl) (ws := kwM h ad cI cZ u) (ci := 1) (C := "StageClockModel") (T := T1) (N := 15) hx hb hB kin1 hown hK hI.1 0 rfl rfl 14 (by decide) (hB _ kw_301) (fun _ q => q) rfl hdg kk
theorem kM_p0 (hx : p.tables.exec = Jvm.exec) (hb : c.code = cc) (hB : ∀ w ∈ kBIG, w.before args s = true) (hown : s.vm.findClass "StageClockModel" = some m.cls) (hK : va_K D kcl (kty cI cZ cG) s) (hI : kI D A H0 (kwM h ad cI cZ u) H locs) {x : Int32} (hdg : decode cc pc = .ok (.putfield 47, 3)) (kk : ∀ (H1 : Heap) (locs1 : List Loc), kI D A H0 (kwM h ad cI cZ (knum u 12 x)) H1 locs1 → W p l e R s m args below meth c H1 locs1 cells slots Q (F0 m (pc + 3) ls rest)) : W p l e R s m args below meth c H locs cells slots Q (F0 m pc ls (.int x :: .ref h :: rest)) := va_put (D := D) (cl := kcl) (ws := kwM h ad cI cZ u) (ci := 1) (v := .int x) (ty := .int) (C := "StageClockModel") (T := T1) (N := 15) hx hb hB kin1 ty1 ty1_ok nm1 hown hK hI.1 hI.2.1 hI.2.2 0 rfl rfl 0 (by decide) (hB _ kw_287) (fun _ q => q) rfl (by decide +kernel) rfl rfl (Nat.le_of_ble_eq_true rfl) hdg (fun H1 locs1 hP hD hS => kk H1 locs1 ⟨hP, hD, hS⟩)
theorem kM_p13 (hx : p.tables.exec = Jvm.exec) (hb : c.code = cc) (hB : ∀ w ∈ kBIG, w.before args s = true) (hown : s.vm.findClass "StageClockModel" = some m.cls) (hK : va_K D kcl (kty cI cZ cG) s) (hI : kI D A H0 (kwM h ad cI cZ u) H locs) {x : Int32} (hdg : decode cc pc = .ok (.putfield 62, 3)) (kk : ∀ (H1 : Heap) (locs1 : List Loc), kI D A H0 (kwM h ad cI cZ (knum u 13 x)) H1 locs1 → W p l e R s m args below meth c H1 locs1 cells slots Q (F0 m (pc + 3) ls rest)) : W p l e R s m args below meth c H locs cells slots Q (F0 m pc ls (.int x :: .ref h :: rest)) := va_put (D := D) (cl := kcl) (ws := kwM h ad cI cZ u) (ci := 1) (v := .int x) (ty := .int) (C := "StageClockModel") (T := T1) (N := 15) hx hb hB kin1 ty1 ty1_ok nm1 hown hK hI.1 hI.2.1 hI.2.2 0 rfl rfl 13 (by decide) (hB _ kw_300) (fun _ q => q) rfl (by decide +kernel) rfl rfl (Nat.le_of_ble_eq_true rfl) hdg (fun H1 locs1 hP hD hS => kk H1 locs1 ⟨hP, hD, hS⟩)
theorem kM_p14 (hx : p.tables.exec = Jvm.exec) (hb : c.code = cc) (hB : ∀ w ∈ kBIG, w.before args s = true) (hown : s.vm.findClass "StageClockModel" = some m.cls) (hK : va_K D kcl (kty cI cZ cG) s) (hI : kI D A H0 (kwM h ad cI cZ u) H locs) {x : Int32} (hdg : decode cc pc = .ok (.putfield 51, 3)) (kk : ∀ (H1 : Heap) (locs1 : List Loc), kI D A H0 (kwM h ad cI cZ (knum u 14 x)) H1 locs1 → W p l e R s m args below meth c H1 locs1 cells slots Q (F0 m (pc + 3) ls rest)) : W p l e R s m args below meth c H locs cells slots Q (F0 m pc ls (.int x :: .ref h :: rest)) := va_put (D := D) (cl := kcl) (ws := kwM h ad cI cZ u) (ci := 1) (v := .int x) (ty := .int) (C := "StageClockModel") (T := T1) (N := 15) hx hb hB kin1 ty1 ty1_ok nm1 hown hK hI.1 hI.2.1 hI.2.2 0 rfl rfl 14 (by decide) (hB _ kw_301) (fun _ q => q) rfl (by decide +kernel) rfl rfl (Nat.le_of_ble_eq_true rfl) hdg (fun H1 locs1 hP hD hS => kk H1 locs1 ⟨hP, hD, hS⟩)
theorem kM_l0 (hx : p.tables.exec = Jvm.exec) (hb : c.code = cc) (hK : va_K D kcl (kty cI cZ cG) s) (hI : kI D A H0 (kwM h ad cI cZ u) H locs) {i v : Int32} (k : Nat) (hk : k < 200) (he : i = nI k) (hv : u 0 k = v) (hdg : decode cc pc = .ok (.iaload, 1)) (kk : W p l e R s m args below meth c H locs cells slots Q (F0 m (pc + 1) ls (.int v :: rest))) : W p l e R s m args below meth c H locs cells slots Q (F0 m pc ls (.int i :: .ref (ad 0) :: rest)) := by
  subst he
  subst hv
  exact va_iald hx hb hK hI.1 1 0 rfl rfl (vp_in_nI hk (by decide)) hdg (by rw [nI_clamp (Nat.lt_trans hk (by decide))]; exact kk)
theorem kM_s0 (hx : p.tables.exec = Jvm.exec) (hb : c.code = cc) (hK : va_K D kcl (kty cI cZ cG) s) (hI : kI D A H0 (kwM h ad cI cZ u) H locs) {i x : Int32} (k : Nat) (hk : k < 200) (he : i = nI k) (hdg : decode cc pc = .ok (.iastore, 1)) (kk : ∀ (H1 : Heap) (locs1 : List Loc), kI D A H0 (kwM h ad cI cZ (kset u 0 k x)) H1 locs1 → W p l e R s m args below meth c H1 locs1 cells slots Q (F0 m (pc + 1) ls rest)) : W p l e R s m args below meth c H locs cells slots Q (F0 m pc ls (.int x :: .int i :: .ref (ad 0) :: rest)) := by
  subst he
  refine va_iast hx hb hK hI.1 hI.2.1 hI.2.2 1 0 rfl rfl (vp_in_nI hk (by decide)) hdg (fun H1 locs1 hP hD hS => ?_)
  rw [nI_clamp (Nat.lt_trans hk (by decide))] at hP hD
  exact kk H1 locs1 ⟨hP, hD, hS⟩
theorem kM_l1 (hx : p.tables.exec = Jvm.exec) (hb : c.code = cc) (hK : va_K D kcl (kty cI cZ cG) s) (hI : kI D A H0 (kwM h ad cI cZ u) H locs) {i v : Int32} (k : Nat) (hk : k < 200) (he : i = nI k) (hv : u 1 k = v) (hdg : decode cc pc = .ok (.iaload, 1)) (kk : W p l e R s m args below meth c H locs cells slots Q (F0 m (pc + 1) ls (.int v :: rest))) : W p l e R s m args below meth c H locs cells slots Q (F0 m pc ls (.int i :: .ref (ad 1) :: rest)) := by
  subst he
  subst hv
  exact va_iald hx hb hK hI.1 2 0 rfl rfl (vp_in_nI hk (by decide)) hdg (by rw [nI_clamp (Nat.lt_trans hk (by decide))]; exact kk)
theorem kM_s1 (hx : p.tables.exec = Jvm.exec) (hb : c.code = cc) (hK : va_K D kcl (kty cI cZ cG) s) (hI : kI D A H0 (kwM h ad cI cZ u) H locs) {i x : Int32} (k : Nat) (hk : k < 200) (he : i = nI k) (hdg : decode cc pc = .ok (.iastore, 1)) (kk : ∀ (H1 : Heap) (locs1 : List Loc), kI D A H0 (kwM h ad cI cZ (kset u 1 k x)) H1 locs1 → W p l e R s m args below meth c H1 locs1 cells slots Q (F0 m (pc + 1) ls rest)) : W p l e R s m args below meth c H locs cells slots Q (F0 m pc ls (.int x :: .int i :: .ref (ad 1) :: rest)) := by
  subst he
  refine va_iast hx hb hK hI.1 hI.2.1 hI.2.2 2 0 rfl rfl (vp_in_nI hk (by decide)) hdg (fun H1 locs1 hP hD hS => ?_)
  rw [nI_clamp (Nat.lt_trans hk (by decide))] at hP hD
  exact kk H1 locs1 ⟨hP, hD, hS⟩
theorem kM_l2 (hx : p.tables.exec = Jvm.exec) (hb : c.code = cc) (hK : va_K D kcl (kty cI cZ cG) s) (hI : kI D A H0 (kwM h ad cI cZ u) H locs) {i v : Int32} (k : Nat) (hk : k < 200) (he : i = nI k) (hv : u 2 k = v) (hdg : decode cc pc = .ok (.iaload, 1)) (kk : W p l e R s m args below meth c H locs cells slots Q (F0 m (pc + 1) ls (.int v :: rest))) : W p l e R s m args below meth c H locs cells slots Q (F0 m pc ls (.int i :: .ref (ad 2) :: rest)) := by
  subst he
  subst hv
  exact va_iald hx hb hK hI.1 3 0 rfl rfl (vp_in_nI hk (by decide)) hdg (by rw [nI_clamp (Nat.lt_trans hk (by decide))]; exact kk)
theorem kM_s2 (hx : p.tables.exec = Jvm.exec) (hb : c.code = cc) (hK : va_K D kcl (kty cI cZ cG) s) (hI : kI D A H0 (kwM h ad cI cZ u) H locs) {i x : Int32} (k : Nat) (hk : k < 200) (he : i = nI k) (hdg : decode cc pc = .ok (.iastore, 1)) (kk : ∀ (H1 : Heap) (locs1 : List Loc), kI D A H0 (kwM h ad cI cZ (kset u 2 k x)) H1 locs1 → W p l e R s m args below meth c H1 locs1 cells slots Q (F0 m (pc + 1) ls rest)) : W p l e R s m args below meth c H locs cells slots Q (F0 m pc ls (.int x :: .int i :: .ref (ad 2) :: rest)) := by
  subst he
  refine va_iast hx hb hK hI.1 hI.2.1 hI.2.2 3 0 rfl rfl (vp_in_nI hk (by decide)) hdg (fun H1 locs1 hP hD hS => ?_)
  rw [nI_clamp (Nat.lt_trans hk (by decide))] at hP hD
  exact kk H1 locs1 ⟨hP, hD, hS⟩
theorem kM_l3 (hx : p.tables.exec = Jvm.exec) (hb : c.code = cc) (hK : va_K D kcl (kty cI cZ cG) s) (hI : kI D A H0 (kwM h ad cI cZ u) H locs) {i v : Int32} (k : Nat) (hk : k < 200) (he : i = nI k) (hv : u 3 k = v) (hdg : decode cc pc = .ok (.iaload, 1)) (kk : W p l e R s m args below meth c H locs cells slots Q (F0 m (pc + 1) ls (.int v :: rest))) : W p l e R s m args below meth c H locs cells slots Q (F0 m pc ls (.int i :: .ref (ad 3) :: rest)) := by
  subst he
  subst hv
  exact va_iald hx hb hK hI.1 4 0 rfl rfl (vp_in_nI hk (by decide)) hdg (by rw [nI_clamp (Nat.lt_trans hk (by decide))]; exact kk)
theorem kM_s3 (hx : p.tables.exec = Jvm.exec) (hb : c.code = cc) (hK : va_K D kcl (kty cI cZ cG) s) (hI : kI D A H0 (kwM h ad cI cZ u) H locs) {i x : Int32} (k : Nat) (hk : k < 200) (he : i = nI k) (hdg : decode cc pc = .ok (.iastore, 1)) (kk : ∀ (H1 : Heap) (locs1 : List Loc), kI D A H0 (kwM h ad cI cZ (kset u 3 k x)) H1 locs1 → W p l e R s m args below meth c H1 locs1 cells slots Q (F0 m (pc + 1) ls rest)) : W p l e R s m args below meth c H locs cells slots Q (F0 m pc ls (.int x :: .int i :: .ref (ad 3) :: rest)) := by
  subst he
  refine va_iast hx hb hK hI.1 hI.2.1 hI.2.2 4 0 rfl rfl (vp_in_nI hk (by decide)) hdg (fun H1 locs1 hP hD hS => ?_)
  rw [nI_clamp (Nat.lt_trans hk (by decide))] at hP hD
  exact kk H1 locs1 ⟨hP, hD, hS⟩
theorem kM_l4 (hx : p.tables.exec = Jvm.exec) (hb : c.code = cc) (hK : va_K D kcl (kty cI cZ cG) s) (hI : kI D A H0 (kwM h ad cI cZ u) H locs) {i v : Int32} (k : Nat) (hk : k < 200) (he : i = nI k) (hv : u 4 k = v) (hdg : decode cc pc = .ok (.iaload, 1)) (kk : W p l e R s m args below meth c H locs cells slots Q (F0 m (pc + 1) ls (.int v :: rest))) : W p l e R s m args below meth c H locs cells slots Q (F0 m pc ls (.int i :: .ref (ad 4) :: rest)) := by
  subst he
  subst hv
  exact va_iald hx hb hK hI.1 5 0 rfl rfl (vp_in_nI hk (by decide)) hdg (by rw [nI_clamp (Nat.lt_trans hk (by decide))]; exact kk)
theorem kM_s4 (hx : p.tables.exec = Jvm.exec) (hb : c.code = cc) (hK : va_K D kcl (kty cI cZ cG) s) (hI : kI D A H0 (kwM h ad cI cZ u) H locs) {i x : Int32} (k : Nat) (hk : k < 200) (he : i = nI k) (hdg : decode cc pc = .ok (.iastore, 1)) (kk : ∀ (H1 : Heap) (locs1 : List Loc), kI D A H0 (kwM h ad cI cZ (kset u 4 k x)) H1 locs1 → W p l e R s m args below meth c H1 locs1 cells slots Q (F0 m (pc + 1) ls rest)) : W p l e R s m args below meth c H locs cells slots Q (F0 m pc ls (.int x :: .int i :: .ref (ad 4) :: rest)) := by
  subst he
  refine va_iast hx hb hK hI.1 hI.2.1 hI.2.2 5 0 rfl rfl (vp_in_nI hk (by decide)) hdg (fun H1 locs1 hP hD hS => ?_)
  rw [nI_clamp (Nat.lt_trans hk (by decide))] at hP hD
  exact kk H1 locs1 ⟨hP, hD, hS⟩
theorem kM_l5 (hx : p.tables.exec = Jvm.exec) (hb : c.code = cc) (hK : va_K D kcl (kty cI cZ cG) s) (hI : kI D A H0 (kwM h ad cI cZ u) H locs) {i v : Int32} (k : Nat) (hk : k < 200) (he : i = nI k) (hv : u 5 k = v) (hdg : decode cc pc = .ok (.baload, 1)) (kk : W p l e R s m args below meth c H locs cells slots Q (F0 m (pc + 1) ls (.int v :: rest))) : W p l e R s m args below meth c H locs cells slots Q (F0 m pc ls (.int i :: .ref (ad 5) :: rest)) := by
  subst he
  subst hv
  exact va_zald hx hb hK hI.1 6 1 rfl rfl (vp_in_nI hk (by decide)) hdg (by rw [nI_clamp (Nat.lt_trans hk (by decide))]; exact kk)
theorem kM_s5 (hx : p.tables.exec = Jvm.exec) (hb : c.code = cc) (hK : va_K D kcl (kty cI cZ cG) s) (hI : kI D A H0 (kwM h ad cI cZ u) H locs) {i x : Int32} (k : Nat) (hk : k < 200) (he : i = nI k) (hn : vp_nar .boolean x = x) (hdg : decode cc pc = .ok (.bastore, 1)) (kk : ∀ (H1 : Heap) (locs1 : List Loc), kI D A H0 (kwM h ad cI cZ (kset u 5 k x)) H1 locs1 → W p l e R s m args below meth c H1 locs1 cells slots Q (F0 m (pc + 1) ls rest)) : W p l e R s m args below meth c H locs cells slots Q (F0 m pc ls (.int x :: .int i :: .ref (ad 5) :: rest)) := by
  subst he
  refine va_zast hx hb hK hI.1 hI.2.1 hI.2.2 6 1 rfl rfl (vp_in_nI hk (by decide)) hdg (fun H1 locs1 hP hD hS => ?_)
  rw [nI_clamp (Nat.lt_trans hk (by decide)), hn] at hP hD
  exact kk H1 locs1 ⟨hP, hD, hS⟩
theorem kM_l6 (hx : p.tables.exec = Jvm.exec) (hb : c.code = cc) (hK : va_K D kcl (kty cI cZ cG) s) (hI : kI D A H0 (kwM h ad cI cZ u) H locs) {i v : Int32} (k : Nat) (hk : k < 200) (he : i = nI k) (hv : u 6 k = v) (hdg : decode cc pc = .ok (.baload, 1)) (kk : W p l e R s m args below meth c H locs cells slots Q (F0 m (pc + 1) ls (.int v :: rest))) : W p l e R s m args below meth c H locs cells slots Q (F0 m pc ls (.int i :: .ref (ad 6) :: rest)) := by
  subst he
  subst hv
  exact va_zald hx hb hK hI.1 7 1 rfl rfl (vp_in_nI hk (by decide)) hdg (by rw [nI_clamp (Nat.lt_trans hk (by decide))]; exact kk)
theorem kM_s6 (hx : p.tables.exec = Jvm.exec) (hb : c.code = cc) (hK : va_K D kcl (kty cI cZ cG) s) (hI : kI D A H0 (kwM h ad cI cZ u) H locs) {i x : Int32} (k : Nat) (hk : k < 200) (he : i = nI k) (hn : vp_nar .boolean x = x) (hdg : decode cc pc = .ok (.bastore, 1)) (kk : ∀ (H1 : Heap) (locs1 : List Loc), kI D A H0 (kwM h ad cI cZ (kset u 6 k x)) H1 locs1 → W p l e R s m args below meth c H1 locs1 cells slots Q (F0 m (pc + 1) ls rest)) : W p l e R s m args below meth c H locs cells slots Q (F0 m pc ls (.int x :: .int i :: .ref (ad 6) :: rest)) := by
  subst he
  refine va_zast hx hb hK hI.1 hI.2.1 hI.2.2 7 1 rfl rfl (vp_in_nI hk (by decide)) hdg (fun H1 locs1 hP hD hS => ?_)
  rw [nI_clamp (Nat.lt_trans hk (by decide)), hn] at hP hD
  exact kk H1 locs1 ⟨hP, hD, hS⟩
theorem kM_l7 (hx : p.tables.exec = Jvm.exec) (hb : c.code = cc) (hK : va_K D kcl (kty cI cZ cG) s) (hI : kI D A H0 (kwM h ad cI cZ u) H locs) {i v : Int32} (k : Nat) (hk : k < 200) (he : i = nI k) (hv : u 7 k = v) (hdg : decode cc pc = .ok (.iaload, 1)) (kk : W p l e R s m args below meth c H locs cells slots Q (F0 m (pc + 1) ls (.int v :: rest))) : W p l e R s m args below meth c H locs cells slots Q (F0 m pc ls (.int i :: .ref (ad 7) :: rest)) := by
  subst he
  subst hv
  exact va_iald hx hb hK hI.1 8 0 rfl rfl (vp_in_nI hk (by decide)) hdg (by rw [nI_clamp (Nat.lt_trans hk (by decide))]; exact kk)
theorem kM_s7 (hx : p.tables.exec = Jvm.exec) (hb : c.code = cc) (hK : va_K D kcl (kty cI cZ cG) s) (hI : kI D A H0 (kwM h ad cI cZ u) H locs) {i x : Int32} (k : Nat) (hk : k < 200) (he : i = nI k) (hdg : decode cc pc = .ok (.iastore, 1)) (kk : ∀ (H1 : Heap) (locs1 : List Loc), kI D A H0 (kwM h ad cI cZ (kset u 7 k x)) H1 locs1 → W p l e R s m args below meth c H1 locs1 cells slots Q (F0 m (pc + 1) ls rest)) : W p l e R s m args below meth c H locs cells slots Q (F0 m pc ls (.int x :: .int i :: .ref (ad 7) :: rest)) := by
  subst he
  refine va_iast hx hb hK hI.1 hI.2.1 hI.2.2 8 0 rfl rfl (vp_in_nI hk (by decide)) hdg (fun H1 locs1 hP hD hS => ?_)
  rw [nI_clamp (Nat.lt_trans hk (by decide))] at hP hD
  exact kk H1 locs1 ⟨hP, hD, hS⟩
theorem kM_l8 (hx : p.tables.exec = Jvm.exec) (hb : c.code = cc) (hK : va_K D kcl (kty cI cZ cG) s) (hI : kI D A H0 (kwM h ad cI cZ u) H locs) {i v : Int32} (k : Nat) (hk : k < 200) (he : i = nI k) (hv : u 8 k = v) (hdg : decode cc pc = .ok (.iaload, 1)) (kk : W p l e R s m args below meth c H locs cells slots Q (F0 m (pc + 1) ls (.int v :: rest))) : W p l e R s m args below meth c H locs cells slots Q (F0 m pc ls (.int i :: .ref (ad 8) :: rest)) := by
  subst he
  subst hv
  exact va_iald hx hb hK hI.1 9 0 rfl rfl (vp_in_nI hk (by decide)) hdg (by rw [nI_clamp (Nat.lt_trans hk (by decide))]; exact kk)
theorem kM_s8 (hx : p.tables.exec = Jvm.exec) (hb : c.code = cc) (hK : va_K D kcl (kty cI cZ cG) s) (hI : kI D A H0 (kwM h ad cI cZ u) H locs) {i x : Int32} (k : Nat) (hk : k < 200) (he : i = nI k) (hdg : decode cc pc = .ok (.iastore, 1)) (kk : ∀ (H1 : Heap) (locs1 : List Loc), kI D A H0 (kwM h ad cI cZ (kset u 8 k x)) H1 locs1 → W p l e R s m args below meth c H1 locs1 cells slots Q (F0 m (pc + 1) ls rest)) : W p l e R s m args below meth c H locs cells slots Q (F0 m pc ls (.int x :: .int i :: .ref (ad 8) :: rest)) := by
  subst he
  refine va_iast hx hb hK hI.1 hI.2.1 hI.2.2 9 0 rfl rfl (vp_in_nI hk (by decide)) hdg (fun H1 locs1 hP hD hS => ?_)
  rw [nI_clamp (Nat.lt_trans hk (by decide))] at hP hD
  exact kk H1 locs1 ⟨hP, hD, hS⟩
theorem kM_l9 (hx : p.tables.exec = Jvm.exec) (hb : c.code = cc) (hK : va_K D kcl (kty cI cZ cG) s) (hI : kI D A H0 (kwM h ad cI cZ u) H locs) {i v : Int32} (k : Nat) (hk : k < 200) (he : i = nI k) (hv : u 9 k = v) (hdg : decode cc pc = .ok (.iaload, 1)) (kk : W p l e R s m args below meth c H locs cells slots Q (F0 m (pc + 1) ls (.int v :: rest))) : W p l e R s m args below meth c H locs cells slots Q (F0 m pc ls (.int i :: .ref (ad 9) :: rest)) := by
  subst he
  subst hv
  exact va_iald hx hb hK hI.1 10 0 rfl rfl (vp_in_nI hk (by decide)) hdg (by rw [nI_clamp (Nat.lt_trans hk (by decide))]; exact kk)
theorem kM_s9 (hx : p.tables.exec = Jvm.exec) (hb : c.code = cc) (hK : va_K D kcl (kty cI cZ cG) s) (hI : kI D A H0 (kwM h ad cI cZ u) H locs) {i x : Int32} (k : Nat) (hk : k < 200) (he : i = nI k) (hdg : decode cc pc = .ok (.iastore, 1)) (kk : ∀ (H1 : Heap) (locs1 : List Loc), kI D A H0 (kwM h ad cI cZ (kset u 9 k x)) H1 locs1 → W p l e R s m args below meth c H1 locs1 cells slots Q (F0 m (pc + 1) ls rest)) : W p l e R s m args below meth c H locs cells slots Q (F0 m pc ls (.int x :: .int i :: .ref (ad 9) :: rest)) := by
  subst he
  refine va_iast hx hb hK hI.1 hI.2.1 hI.2.2 10 0 rfl rfl (vp_in_nI hk (by decide)) hdg (fun H1 locs1 hP hD hS => ?_)
  rw [nI_clamp (Nat.lt_trans hk (by decide))] at hP hD
  exact kk H1 locs1 ⟨hP, hD, hS⟩
theorem kM_l10 (hx : p.tables.exec = Jvm.exec) (hb : c.code = cc) (hK : va_K D kcl (kty cI cZ cG) s) (hI : kI D A H0 (kwM h ad cI cZ u) H locs) {i v : Int32} (k : Nat) (hk : k < 200) (he : i = nI k) (hv : u 10 k = v) (hdg : decode cc pc = .ok (.iaload, 1)) (kk : W p l e R s m args below meth c H locs cells slots Q (F0 m (pc + 1) ls (.int v :: rest))) : W p l e R s m args below meth c H locs cells slots Q (F0 m pc ls (.int i :: .ref (ad 10) :: rest)) := by
  subst he
  subst hv
  exact va_iald hx hb hK hI.1 11 0 rfl rfl (vp_in_nI hk (by decide)) hdg (by rw [nI_clamp (Nat.lt_trans hk (by decide))]; exact kk)
theorem kM_s10 (hx : p.tables.exec = Jvm.exec) (hb : c.code = cc) (hK : va_K D kcl (kty cI cZ cG) s) (hI : kI D A H0 (kwM h ad cI cZ u) H locs) {i x : Int32} (k : Nat) (hk : k < 200) (he : i = nI k) (hdg : decode cc pc = .ok (.iastore, 1)) (kk : ∀ (H1 : Heap) (locs1 : List Loc), kI D A H0 (kwM h ad cI cZ (kset u 10 k x)) H1 locs1 → W p l e R s m args below meth c H1 locs1 cells slots Q (F0 m (pc + 1) ls rest)) : W p l e R s m args below meth c H locs cells slots Q (F0 m pc ls (.int x :: .int i :: .ref (ad 10) :: rest)) := by
  subst he
  refine va_iast hx hb hK hI.1 hI.2.1 hI.2.2 11 0 rfl rfl (vp_in_nI hk (by decide)) hdg (fun H1 locs1 hP hD hS => ?_)
  rw [nI_clamp (Nat.lt_trans hk (by decide))] at hP hD
  exact kk H1 locs1 ⟨hP, hD, hS⟩
theorem kM_l11 (hx : p.tables.exec = Jvm.exec) (hb : c.code = cc) (hK : va_K D kcl (kty cI cZ cG) s) (hI : kI D A H0 (kwM h ad cI cZ u) H locs) {i v : Int32} (k : Nat) (hk : k < 200) (he : i = nI k) (hv : u 11 k = v) (hdg : decode cc pc = .ok (.iaload, 1)) (kk : W p l e R s m args below meth c H locs cells slots Q (F0 m (pc + 1) ls (.int v :: rest))) : W p l e R s m args below meth c H locs cells slots Q (F0 m pc ls (.int i :: .ref (ad 11) :: rest)) := by
  subst he
  subst hv
  exact va_iald hx hb hK hI.1 12 0 rfl rfl (vp_in_nI hk (by decide)) hdg (by rw [nI_clamp (Nat.lt_trans hk (by decide))]; exact kk)
theorem kM_s11 (hx : p.tables.exec = Jvm.exec) (hb : c.code = cc) (hK : va_K D kcl (kty cI cZ cG) s) (hI : kI D A H0 (kwM h ad cI cZ u) H locs) {i x : Int32} (k : Nat) (hk : k < 200) (he : i = nI k) (hdg : decode cc pc = .ok (.iastore, 1)) (kk : ∀ (H1 : Heap) (locs1 : List Loc), kI D A H0 (kwM h ad cI cZ (kset u 11 k x)) H1 locs1 → W p l e R s m args below meth c H1 locs1 cells slots Q (F0 m (pc + 1) ls rest)) : W p l e R s m args below meth c H locs cells slots Q (F0 m pc ls (.int x :: .int i :: .ref (ad 11) :: rest)) := by
  subst he
  refine va_iast hx hb hK hI.1 hI.2.1 hI.2.2 12 0 rfl rfl (vp_in_nI hk (by decide)) hdg (fun H1 locs1 hP hD hS => ?_)
  rw [nI_clamp (Nat.lt_trans hk (by decide))] at hP hD
  exact kk H1 locs1 ⟨hP, hD, hS⟩
theorem kC_row (hx : p.tables.exec = Jvm.exec) (hb : c.code = cc) (hK : va_K D kcl (kty cI cZ cG) s) (hI : kI D A H0 (kwC h ad cI cZ cG u) H locs) {i : Int32} (k : Nat) (hk : k < 7) (he : i = nI k) (hdg : decode cc pc = .ok (.aaload, 1)) (kk : W p l e R s m args below meth c H locs cells slots Q (F0 m (pc + 1) ls (.ref (ad (8 + k)) :: rest))) : W p l e R s m args below meth c H locs cells slots Q (F0 m pc ls (.int i :: .ref (ad 15) :: rest)) := by
  subst he
  refine W.aald (v := .ref (ad (8 + k))) (ty := .array .int) hx hb (hI.1 16 _ rfl) ((hK.2 2 _ rfl).1 7 (fun j => va_rf (kro ad j))) rfl (fun q => by cases q) ?_ ?_ rfl rfl hdg kk
  · show ¬ (nI k < 0 ∨ (arrV _ _ _).slots.size ≤ _)
    rw [arrV_size]
    exact vp_in_nI (N := 7) hk (by decide)
  · show (arrV _ _ _).slots[_]? = _
    rw [nI_clamp (Nat.lt_trans hk (by decide)), arrV_read _ _ hk]
    simp [kro, va_rf, hk]
theorem kC_lr (hx : p.tables.exec = Jvm.exec) (hb : c.code = cc) (hK : va_K D kcl (kty cI cZ cG) s) (hI : kI D A H0 (kwC h ad cI cZ cG u) H locs) {i v : Int32} (r : Nat) (hr : r < 7) (k : Nat) (hk : k < 200) (he : i = nI k) (hv : u (8 + r) k = v) (hdg : decode cc pc = .ok (.iaload, 1)) (kk : W p l e R s m args below meth c H locs cells slots Q (F0 m (pc + 1) ls (.int v :: rest))) : W p l e R s m args below meth c H locs cells slots Q (F0 m pc ls (.int i :: .ref (ad (8 + r)) :: rest)) := by
  rcases (show r = 0 ∨ r = 1 ∨ r = 2 ∨ r = 3 ∨ r = 4 ∨ r = 5 ∨ r = 6 by omega) with rfl | rfl | rfl | rfl | rfl | rfl | rfl
  · exact kC_l8 hx hb hK hI k hk he hv hdg kk
  · exact kC_l9 hx hb hK hI k hk he hv hdg kk
  · exact kC_l10 hx hb hK hI k hk he hv hdg kk
  · exact kC_l11 hx hb hK hI k hk he hv hdg kk
  · exact kC_l12 hx hb hK hI k hk he hv hdg kk
  · exact kC_l13 hx hb hK hI k hk he hv hdg kk
  · exact kC_l14 hx hb hK hI k hk he hv hdg kk
theorem k_iadd (hx : p.tables.exec = Jvm.exec) (hb : c.code = cc) {x y v : Int32} (hv : x + y = v) (hdg : decode cc pc = .ok (.iadd, 1)) (kk : W p l e R s m args below meth c H locs cells slots Q (F0 m (pc + 1) ls (.int v :: rest))) : W p l e R s m args below meth c H locs cells slots Q (F0 m pc ls (.int y :: .int x :: rest)) := by
  subst hv
  exact lv_iadd hx hb hdg kk
theorem k_isub (hx : p.tables.exec = Jvm.exec) (hb : c.code = cc) {x y v : Int32} (hv : x - y = v) (hdg : decode cc pc = .ok (.isub, 1)) (kk : W p l e R s m args below meth c H locs cells slots Q (F0 m (pc + 1) ls (.int v :: rest))) : W p l e R s m args below meth c H locs cells slots Q (F0 m pc ls (.int y :: .int x :: rest)) := by
  subst hv
  exact lv_isub hx hb hdg kk
theorem k_iand (hx : p.tables.exec = Jvm.exec) (hb : c.code = cc) {x y v : Int32} (hv : x &&& y = v) (hdg : decode cc pc = .ok (.iand, 1)) (kk : W p l e R s m args below meth c H locs cells slots Q (F0 m (pc + 1) ls (.int v :: rest))) : W p l e R s m args below meth c H locs cells slots Q (F0 m pc ls (.int y :: .int x :: rest)) := by
  subst hv
  exact lv_iand hx hb hdg kk
theorem k_ishr (hx : p.tables.exec = Jvm.exec) (hb : c.code = cc) {x y v : Int32} (hv : x >>> (y &&& 31) = v) (hdg : decode cc pc = .ok (.ishr, 1)) (kk : W p l e R s m args below meth c H locs cells slots Q (F0 m (pc + 1) ls (.int v :: rest))) : W p l e R s m args below meth c H locs cells slots Q (F0 m pc ls (.int y :: .int x :: rest)) := by
  subst hv
  exact lv_ishr hx hb hdg kk
end KR
