/-! worlds side by side: a callee that knows one part only -/
theorem kP_l {D : va_G} {w r : va_W} {H : Heap} (h : va_P D kcl (w ++ r) H) : va_P D kcl w H := fun k q hk => h k q (by rw [List.getElem?_append_left (List.getElem?_eq_some_iff.mp hk).1]; exact hk)
theorem kP_r {D : va_G} {w r : va_W} {H : Heap} (h : va_P D kcl (w ++ r) H) : va_P D kcl r H := fun k q hk => h (w.length + k) q (by rw [List.getElem?_append_right (Nat.le_add_right _ _), Nat.add_sub_cancel_left]; exact hk)
theorem kg_l {w r : va_W} {k : Nat} {q : Nat × va_E} (hk : w[k]? = some q) : (w ++ r)[k]? = some q := by rw [List.getElem?_append_left (List.getElem?_eq_some_iff.mp hk).1]; exact hk
theorem kg_r {w r : va_W} {k : Nat} {q : Nat × va_E} (hk : r[k]? = some q) : (w ++ r)[w.length + k]? = some q := by rw [List.getElem?_append_right (Nat.le_add_right _ _), Nat.add_sub_cancel_left]; exact hk
theorem kD_l {A : Nat → Prop} {w r : va_W} (h : va_D A (w ++ r)) : va_D A w := ⟨fun i j p q hi hj e => h.1 i j p q (kg_l hi) (kg_l hj) e, fun k q hk => h.2 k q (kg_l hk)⟩
theorem kD_r {A : Nat → Prop} {w r : va_W} (h : va_D A (w ++ r)) : va_D A r := ⟨fun i j p q hi hj e => by have := h.1 _ _ p q (kg_r hi) (kg_r hj) e; omega, fun k q hk => h.2 _ q (kg_r hk)⟩
theorem kD_x {A : Nat → Prop} {w r : va_W} (h : va_D A (w ++ r)) {i j : Nat} {p q : Nat × va_E} (hi : w[i]? = some p) (hj : r[j]? = some q) : p.1 ≠ q.1 := fun e => by
  have h1 := h.1 _ _ p q (kg_l hi) (kg_r hj) e
  have h2 := (List.getElem?_eq_some_iff.mp hi).1
  omega
theorem kI_l {D : va_G} {A : Nat → Prop} {H0 H : Heap} {w r : va_W} {locs : List Loc} (hI : kI D A H0 (w ++ r) H locs) : kI D A H0 w H locs := ⟨kP_l hI.1, kD_l hI.2.1, hI.2.2⟩
theorem kI_swap {D : va_G} {A : Nat → Prop} {H0 H : Heap} {w r : va_W} {locs : List Loc} (hI : kI D A H0 (w ++ r) H locs) : kI D A H0 (r ++ w) H locs :=
  ⟨(kP_r hI.1).app (kP_l hI.1), (kD_r hI.2.1).app (kD_l hI.2.1) (fun i j p q hi hj e => kD_x hI.2.1 hj hi e.symm), hI.2.2⟩
theorem kframe {D : va_G} {A : Nat → Prop} {H0 H H1 : Heap} {w r w1 : va_W} {locs locs1 : List Loc} (hI : kI D A H0 (w ++ r) H locs) (hk : ∀ q : Nat, q < H.size → ¬ va_A w H.size q → H1[q]? = H[q]?) (hP1 : va_P D kcl w1 H1) (hD1 : va_D (va_A w H.size) w1) (hF : ∀ q, va_A w H.size q → A q) (hS : va_S A H0 H1 locs1) : kI D A H0 (w1 ++ r) H1 locs1 := by
  have hr := kP_r hI.1
  have hout : ∀ (j : Nat) (q : Nat × va_E), r[j]? = some q → q.1 < H.size ∧ ¬ va_A w H.size q.1 := fun j q hj => by
    have hlt : q.1 < H.size := (hr j q hj).lt
    refine ⟨hlt, fun ha => ?_⟩
    rcases ha with ⟨i, e, hi⟩ | h
    · exact kD_x hI.2.1 hi hj rfl
    · omega
  refine ⟨hP1.app (hr.kept (fun j q hj => hk q.1 (hout j q hj).1 (hout j q hj).2)), ?_, hS⟩
  refine va_D.app (hD1.weaken (fun _ _ _ q => hF _ q)) (kD_r hI.2.1) (fun i j p q hi hj e => ?_)
  have h1 := hD1.2 i p hi
  rw [e] at h1
  exact (hout j q hj).2 h1
/-- the array that the law's helpers answer through -/
def kwO (h : Nat) (ad : Nat → Nat) (cI cZ cG cJ : ClassId) (o : Nat) (u : kU) : va_W := kwC h ad cI cZ cG u ++ [(o, .inl (cJ, 1, .inr (.inl (fun j => (u 16 j).toInt64))))]
abbrev ktz (cI cZ cG cJ : ClassId) : List (ClassId × FieldType) := [(cI, .int), (cZ, .boolean), (cG, .array .int), (cJ, .long)]
theorem ktz_c {D : va_G} {cI cZ cG cJ : ClassId} {s : State} (h : va_K D kcl (ktz cI cZ cG cJ) s) : va_K D kcl (kty cI cZ cG) s := h.sub [0, 1, 2] rfl
theorem kfO (h : Nat) (ad : Nat → Nat) (cI cZ cG cJ : ClassId) (o : Nat) (u : kU) (x : Int32) : (kwO h ad cI cZ cG cJ o u).set 17 (o, .inl (cJ, 1, .inr (.inl (vp_updL (fun j => (u 16 j).toInt64) 0 x.toInt64)))) = kwO h ad cI cZ cG cJ o (kset u 16 0 x) := by
  have e : vp_updL (fun j => (u 16 j).toInt64) 0 x.toInt64 = fun j => ((kset u 16 0 x) 16 j).toInt64 := by
    funext j
    by_cases hj : j = 0
    · subst hj
      rw [kset_eq]
      exact pk_uLs
    · rw [kset_off hj]
      exact pk_uLn hj
  rw [e]
  rfl
theorem kSt_16 {P : Nat → kIns} {n : Nat} {x : kU} {v : Int32} (h : kSt P n x) : kSt P n (kset x 16 0 v) := ⟨kIn_of (fun j hj => kset_ne (by omega)) h.1, fun i hi => kRow_of (fun j h1 h2 => by rw [kset_ne (by omega)]) (h.2 i hi)⟩
section KO
variable {p : Program} {l : Launch} {e : Env} {R : Room} {s : State} {m : MethodId} {args : Array Value} {below : List Frame} {meth : Method} {c : Code} {H : Heap} {locs : List Loc} {cells slots : Nat} {Q : State → Prop}
variable {cc : ByteArray} {pc : Nat} {ls : Array Slot} {rest : List Value} {D : va_G} {tys tyc : List (ClassId × FieldType)} {A : Nat → Prop} {H0 : Heap} {h o : Nat} {ad : Nat → Nat} {cI cZ cG cJ : ClassId} {u : kU} {wf : kU → va_W} {rw_ : va_W}
theorem kO_s {x : Int32} (hx : p.tables.exec = Jvm.exec) (hb : c.code = cc) (hK : va_K D kcl (ktz cI cZ cG cJ) s) (hI : kI D A H0 (kwO h ad cI cZ cG cJ o u) H locs) (hdg : decode cc pc = .ok (.lastore, 1)) (kk : ∀ (H1 : Heap) (locs1 : List Loc), kI D A H0 (kwO h ad cI cZ cG cJ o (kset u 16 0 x)) H1 locs1 → W p l e R s m args below meth c H1 locs1 cells slots Q (F0 m (pc + 1) ls rest)) : W p l e R s m args below meth c H locs cells slots Q (F0 m pc ls (.long x.toInt64 :: .int (nI 0) :: .ref o :: rest)) := by
  refine va_last hx hb hK hI.1 hI.2.1 hI.2.2 17 3 rfl rfl (vp_in_nI (by decide) (by decide)) hdg (fun H1 locs1 hP hD hS => ?_)
  rw [nI_clamp (by decide), kfO] at hP hD
  exact kk H1 locs1 ⟨hP, hD, hS⟩
theorem kO_l {r : va_W} (hx : p.tables.exec = Jvm.exec) (hb : c.code = cc) (hK : va_K D kcl (ktz cI cZ cG cJ) s) (hI : kI D A H0 (kwO h ad cI cZ cG cJ o u ++ r) H locs) (hdg : decode cc pc = .ok (.laload, 1)) (kk : W p l e R s m args below meth c H locs cells slots Q (F0 m (pc + 1) ls (.long (u 16 0).toInt64 :: rest))) : W p l e R s m args below meth c H locs cells slots Q (F0 m pc ls (.int (nI 0) :: .ref o :: rest)) :=
  va_lald hx hb hK (kI_l hI).1 17 3 rfl rfl (vp_in_nI (by decide) (by decide)) hdg (by rw [nI_clamp (by decide)]; exact kk)
/-- a public method of the clock, called by a helper of the law -/
theorem kcall_wi {y : MethodName} {own C : String} {index maxL nL n : Nat} {bytes : ByteArray} {ret : Option FieldType} {rm : Room} {b : Nat} {As : List Value} {post : Int32 → kU → Prop} {TE : String → Prop} (hx : p.tables.exec = Jvm.exec) (hb : c.code = cc) (hml : c.maxLocals = nL) (hown : s.vm.findClass own = some m.cls) (hB : ∀ w ∈ kBIG, w.before args s = true) (hKc : va_K D kcl tyc s) (hI : kI D A s.heap (wf u ++ rw_) H locs) (hA : ∀ q, s.heap.size ≤ q → A q) (hE : kE s) (hZ : kZ A s s.heap)
    (hM : kXi l D tyc y (.code y bytes maxL ret) rm (.ref b :: As) wf u H.size post TE) (hG : GoodIn kBIG (wsV own index C y (Cond.code y bytes maxL ret :: kBIG))) (hy : y.cls = C ∧ y.cls ≠ "java/lang/invoke/MethodHandle" ∧ y.cls ≠ "java/lang/invoke/VarHandle" ∧ (parseMethodDescriptor y.desc).map (fun d => d.parameters.length) = some n) (hR : rm.frames + 1 ≤ R.frames ∧ 8 + (maxL + 11) + rm.locals ≤ R.locals)
    (hrecv : ∃ cellB : Cell, H[b]? = some cellB ∧ cellB.vm.isStatics = false ∧ s.vm.findClass C = some cellB.cls) (hn : As.length = n) (hls : ls.size = nL) (hW : (rest.map fun v => v.category).sum ≤ 8) (hdg : decode cc pc = .ok (.invokevirtual index, 3)) (hf : cells + rm.cells ≤ R.cells ∧ slots + rm.slots ≤ R.slots) {st : List Value} (hst : st = As.reverse ++ .ref b :: rest)
    (kx : ∀ (E : String) (ce : Cell) (q9 : Addr) (H1 : Heap) (locs1 : List Loc), TE E → kI D A s.heap (wf u ++ rw_) H1 locs1 → H1[q9]? = some ce → ce.vm = .none → s.vm.findClass E = some ce.cls → vx_W p l e R s m args below meth c H1 locs1 (cells + rm.cells) (slots + rm.slots) Q (F0 m pc ls rest) q9)
    (kk : ∀ (r : Int32) (x : kU) (H1 : Heap) (locs1 : List Loc), post r x → kI D A s.heap (wf x ++ rw_) H1 locs1 → W p l e R s m args below meth c H1 locs1 (cells + rm.cells) (slots + rm.slots) Q (F0 m (pc + 3) ls (.int r :: rest))) : W p l e R s m args below meth c H locs cells slots Q (F0 m pc ls st) :=
  vx_calli (vx_runV (As := As) (rest := rest) ⟨hx, hb, hml, hown, hB⟩ hM (cwV n hB hG rfl rfl rfl hy hR) ⟨kPre_blind, hrecv, fun U hU hW => ⟨rfl, kPre_call (kI_l hI) hA hKc hE hZ U hU hW⟩⟩ rfl hn hls hst (lv_room hW) hdg hf) hI.2.2 (fun q _ h => kfree (kI_l hI) hA q h) (kfree (kI_l hI) hA) (fun q _ h => kfree (kI_l hI) hA q h)
    (fun E ce q9 x t H1 locs1 ht _ hp hB _ hk hS hce hcv hcl => by
      rw [hp] at hB
      exact kx E ce q9 H1 locs1 hB.1 (kframe hI hk (by rw [← ht]; exact hB.2.1) hB.2.2.2 (kfree (kI_l hI) hA) hS) hce hcv hcl)
    (fun r x t H1 locs1 ht _ hp hB _ hk hS => kk r x H1 locs1 hp (kframe hI hk (by rw [← ht]; exact hB.1) hB.2.2 (kfree (kI_l hI) hA) hS))
theorem kcall_wv {y : MethodName} {own C : String} {index maxL nL n : Nat} {bytes : ByteArray} {ret : Option FieldType} {rm : Room} {b : Nat} {As : List Value} {post : kU → Prop} {TE : String → Prop} (hx : p.tables.exec = Jvm.exec) (hb : c.code = cc) (hml : c.maxLocals = nL) (hown : s.vm.findClass own = some m.cls) (hB : ∀ w ∈ kBIG, w.before args s = true) (hKc : va_K D kcl tyc s) (hI : kI D A s.heap (wf u ++ rw_) H locs) (hA : ∀ q, s.heap.size ≤ q → A q) (hE : kE s) (hZ : kZ A s s.heap)
    (hM : kXv l D tyc y (.code y bytes maxL ret) rm (.ref b :: As) wf u H.size post TE) (hG : GoodIn kBIG (wsV own index C y (Cond.code y bytes maxL ret :: kBIG))) (hy : y.cls = C ∧ y.cls ≠ "java/lang/invoke/MethodHandle" ∧ y.cls ≠ "java/lang/invoke/VarHandle" ∧ (parseMethodDescriptor y.desc).map (fun d => d.parameters.length) = some n) (hR : rm.frames + 1 ≤ R.frames ∧ 8 + (maxL + 11) + rm.locals ≤ R.locals)
    (hrecv : ∃ cellB : Cell, H[b]? = some cellB ∧ cellB.vm.isStatics = false ∧ s.vm.findClass C = some cellB.cls) (hn : As.length = n) (hls : ls.size = nL) (hW : (rest.map fun v => v.category).sum ≤ 8) (hdg : decode cc pc = .ok (.invokevirtual index, 3)) (hf : cells + rm.cells ≤ R.cells ∧ slots + rm.slots ≤ R.slots) {st : List Value} (hst : st = As.reverse ++ .ref b :: rest)
    (kx : ∀ (E : String) (ce : Cell) (q9 : Addr) (H1 : Heap) (locs1 : List Loc), TE E → kI D A s.heap (wf u ++ rw_) H1 locs1 → H1[q9]? = some ce → ce.vm = .none → s.vm.findClass E = some ce.cls → vx_W p l e R s m args below meth c H1 locs1 (cells + rm.cells) (slots + rm.slots) Q (F0 m pc ls rest) q9)
    (kk : ∀ (x : kU) (H1 : Heap) (locs1 : List Loc), post x → kI D A s.heap (wf x ++ rw_) H1 locs1 → W p l e R s m args below meth c H1 locs1 (cells + rm.cells) (slots + rm.slots) Q (F0 m (pc + 3) ls rest)) : W p l e R s m args below meth c H locs cells slots Q (F0 m pc ls st) :=
  vx_callv (vx_runV (As := As) (rest := rest) ⟨hx, hb, hml, hown, hB⟩ hM (cwV n hB hG rfl rfl rfl hy hR) ⟨kPre_blind, hrecv, fun U hU hW => ⟨rfl, kPre_call (kI_l hI) hA hKc hE hZ U hU hW⟩⟩ rfl hn hls hst (lv_room hW) hdg hf) hI.2.2 (fun q _ h => kfree (kI_l hI) hA q h) (kfree (kI_l hI) hA) (fun q _ h => kfree (kI_l hI) hA q h)
    (fun E ce q9 x t H1 locs1 ht _ hp hB _ hk hS hce hcv hcl => by
      rw [hp] at hB
      exact kx E ce q9 H1 locs1 hB.1 (kframe hI hk (by rw [← ht]; exact hB.2.1) hB.2.2.2 (kfree (kI_l hI) hA) hS) hce hcv hcl)
    (fun x t H1 locs1 ht _ hp hB _ hk hS => kk x H1 locs1 hp (kframe hI hk (by rw [← ht]; exact hB.1) hB.2.2 (kfree (kI_l hI) hA) hS))
/-- a helper of the law, called by the law -/
theorem kcall_l {y : MethodName} {own : String} {index maxL nL n : Nat} {bytes : ByteArray} {ret : Option FieldType} {hh : List (Nat × Nat × Nat × Nat)} {rm : Room} {As : List Value} {post : Int32 → kU → Prop} (hx : p.tables.exec = Jvm.exec) (hb : c.code = cc) (hml : c.maxLocals = nL) (hown : s.vm.findClass own = some m.cls) (hB : ∀ w ∈ kBIG, w.before args s = true) (hKc : va_K D kcl tyc s) (hI : kI D A s.heap (wf u ++ rw_) H locs) (hA : ∀ q, s.heap.size ≤ q → A q) (hE : kE s) (hZ : kZ A s s.heap)
    (hM : kXi l D tyc y (.codeWith y bytes maxL ret hh) rm As wf u H.size post (fun _ => False)) (hG : GoodIn kBIG (va_wsS own index y (Cond.codeWith y bytes maxL ret hh :: kBIG))) (hy : y.cls ≠ "java/lang/invoke/MethodHandle" ∧ y.cls ≠ "java/lang/invoke/VarHandle" ∧ (parseMethodDescriptor y.desc).map (fun d => d.parameters.length) = some n) (hR : rm.frames + 1 ≤ R.frames ∧ 8 + (maxL + 11) + rm.locals ≤ R.locals)
    (hn : As.length = n) (hls : ls.size = nL) (hW : (rest.map fun v => v.category).sum ≤ 8) (hdg : decode cc pc = .ok (.invokestatic index, 3)) (hf : cells + rm.cells ≤ R.cells ∧ slots + rm.slots ≤ R.slots) {st : List Value} (hst : st = As.reverse ++ rest)
    (kk : ∀ (r : Int32) (x : kU) (H1 : Heap) (locs1 : List Loc), post r x → kI D A s.heap (wf x ++ rw_) H1 locs1 → W p l e R s m args below meth c H1 locs1 (cells + rm.cells) (slots + rm.slots) Q (F0 m (pc + 3) ls (.int r :: rest))) : W p l e R s m args below meth c H locs cells slots Q (F0 m pc ls st) :=
  vx_calli (vx_runSX (As := As) (rest := rest) ⟨hx, hb, hml, hown, hB⟩ hM (vx_cwSW n hB hG rfl rfl rfl hy hR) ⟨kPre_blind, fun U hU hW => ⟨rfl, kPre_call (kI_l hI) hA hKc hE hZ U hU hW⟩⟩ rfl hn hls hst (lv_room hW) hdg hf) hI.2.2 (fun q _ h => kfree (kI_l hI) hA q h) (kfree (kI_l hI) hA) (fun q _ h => kfree (kI_l hI) hA q h)
    (fun E ce q9 x t H1 locs1 ht _ hp hB _ hk hS hce hcv hcl => hB.1.elim)
    (fun r x t H1 locs1 ht _ hp hB _ hk hS => kk r x H1 locs1 hp (kframe hI hk (by rw [← ht]; exact hB.1) hB.2.2 (kfree (kI_l hI) hA) hS))
/-- a method of the model, called by the law -/
theorem kcall_fi {y : MethodName} {own C : String} {index maxL nL n : Nat} {bytes : ByteArray} {ret : Option FieldType} {rm : Room} {b : Nat} {As : List Value} {post : Int32 → kU → Prop} (hx : p.tables.exec = Jvm.exec) (hb : c.code = cc) (hml : c.maxLocals = nL) (hown : s.vm.findClass own = some m.cls) (hB : ∀ w ∈ kBIG, w.before args s = true) (hKc : va_K D kcl tyc s) (hI : kI D A s.heap (rw_ ++ wf u) H locs) (hA : ∀ q, s.heap.size ≤ q → A q) (hE : kE s) (hZ : kZ A s s.heap)
    (hM : kMi l D tyc y (.code y bytes maxL ret) rm (.ref b :: As) wf u H.size post) (hG : GoodIn kBIG (wsV own index C y (Cond.code y bytes maxL ret :: kBIG))) (hy : y.cls = C ∧ y.cls ≠ "java/lang/invoke/MethodHandle" ∧ y.cls ≠ "java/lang/invoke/VarHandle" ∧ (parseMethodDescriptor y.desc).map (fun d => d.parameters.length) = some n) (hR : rm.frames + 1 ≤ R.frames ∧ 8 + (maxL + 11) + rm.locals ≤ R.locals)
    (hrecv : ∃ cellB : Cell, H[b]? = some cellB ∧ cellB.vm.isStatics = false ∧ s.vm.findClass C = some cellB.cls) (hn : As.length = n) (hls : ls.size = nL) (hW : (rest.map fun v => v.category).sum ≤ 8) (hdg : decode cc pc = .ok (.invokevirtual index, 3)) (hf : cells + rm.cells ≤ R.cells ∧ slots + rm.slots ≤ R.slots) {st : List Value} (hst : st = As.reverse ++ .ref b :: rest)
    (kk : ∀ (r : Int32) (x : kU) (H1 : Heap) (locs1 : List Loc), post r x → kI D A s.heap (rw_ ++ wf x) H1 locs1 → W p l e R s m args below meth c H1 locs1 (cells + rm.cells) (slots + rm.slots) Q (F0 m (pc + 3) ls (.int r :: rest))) : W p l e R s m args below meth c H locs cells slots Q (F0 m pc ls st) :=
  va_calli (va_runV (As := As) (rest := rest) ⟨hx, hb, hml, hown, hB⟩ hM (cwV n hB hG rfl rfl rfl hy hR) ⟨kPre_blind, hrecv, fun U hU hW => ⟨rfl, kPre_call (kI_l (kI_swap hI)) hA hKc hE hZ U hU hW⟩⟩ rfl hn hls hst (lv_room hW) hdg hf) hI.2.2 (fun q _ h => kfree (kI_l (kI_swap hI)) hA q h) (kfree (kI_l (kI_swap hI)) hA)
    (fun r x t H1 locs1 ht _ hp hB _ hk hS => kk r x H1 locs1 hp (kI_swap (kframe (kI_swap hI) hk (by rw [← ht]; exact hB.1) hB.2.2 (kfree (kI_l (kI_swap hI)) hA) hS)))
theorem kcall_fv {y : MethodName} {own C : String} {index maxL nL n : Nat} {bytes : ByteArray} {ret : Option FieldType} {rm : Room} {b : Nat} {As : List Value} {post : kU → Prop} (hx : p.tables.exec = Jvm.exec) (hb : c.code = cc) (hml : c.maxLocals = nL) (hown : s.vm.findClass own = some m.cls) (hB : ∀ w ∈ kBIG, w.before args s = true) (hKc : va_K D kcl tyc s) (hI : kI D A s.heap (rw_ ++ wf u) H locs) (hA : ∀ q, s.heap.size ≤ q → A q) (hE : kE s) (hZ : kZ A s s.heap)
    (hM : kMv l D tyc y (.code y bytes maxL ret) rm (.ref b :: As) wf u H.size post) (hG : GoodIn kBIG (wsV own index C y (Cond.code y bytes maxL ret :: kBIG))) (hy : y.cls = C ∧ y.cls ≠ "java/lang/invoke/MethodHandle" ∧ y.cls ≠ "java/lang/invoke/VarHandle" ∧ (parseMethodDescriptor y.desc).map (fun d => d.parameters.length) = some n) (hR : rm.frames + 1 ≤ R.frames ∧ 8 + (maxL + 11) + rm.locals ≤ R.locals)
    (hrecv : ∃ cellB : Cell, H[b]? = some cellB ∧ cellB.vm.isStatics = false ∧ s.vm.findClass C = some cellB.cls) (hn : As.length = n) (hls : ls.size = nL) (hW : (rest.map fun v => v.category).sum ≤ 8) (hdg : decode cc pc = .ok (.invokevirtual index, 3)) (hf : cells + rm.cells ≤ R.cells ∧ slots + rm.slots ≤ R.slots) {st : List Value} (hst : st = As.reverse ++ .ref b :: rest)
    (kk : ∀ (x : kU) (H1 : Heap) (locs1 : List Loc), post x → kI D A s.heap (rw_ ++ wf x) H1 locs1 → W p l e R s m args below meth c H1 locs1 (cells + rm.cells) (slots + rm.slots) Q (F0 m (pc + 3) ls rest)) : W p l e R s m args below meth c H locs cells slots Q (F0 m pc ls st) :=
  va_callv (va_runV (As := As) (rest := rest) ⟨hx, hb, hml, hown, hB⟩ hM (cwV n hB hG rfl rfl rfl hy hR) ⟨kPre_blind, hrecv, fun U hU hW => ⟨rfl, kPre_call (kI_l (kI_swap hI)) hA hKc hE hZ U hU hW⟩⟩ rfl hn hls hst (lv_room hW) hdg hf) hI.2.2 (fun q _ h => kfree (kI_l (kI_swap hI)) hA q h) (kfree (kI_l (kI_swap hI)) hA)
    (fun x t H1 locs1 ht _ hp hB _ hk hS => kk x H1 locs1 hp (kI_swap (kframe (kI_swap hI) hk (by rw [← ht]; exact hB.1) hB.2.2 (kfree (kI_l (kI_swap hI)) hA) hS)))
/-- 'x != 0' as a number: ifeq, iconst_1, goto, iconst_0 -/
theorem k_bool {x : Int32} (hx : p.tables.exec = Jvm.exec) (hb : c.code = cc) (d0 : decode cc pc = .ok (.ifCond .eq 7, 3)) (d3 : decode cc (pc + 3) = .ok (.iconst 1, 1)) (d4 : decode cc (pc + 4) = .ok (.goto 4, 3)) (d7 : decode cc (pc + 7) = .ok (.iconst 0, 1))
    (kk : W p l e R s m args below meth c H locs cells slots Q (F0 m (pc + 8) ls (.int (kb (decide (x ≠ 0))) :: rest))) : W p l e R s m args below meth c H locs cells slots Q (F0 m pc ls (.int x :: rest)) := by
  refine lv_if_eq (tgt := pc + 7) hx hb d0 (by omega) (fun hc => ?_) (fun hc => ?_)
  · refine lv_iconst (v := kb (decide (x ≠ 0))) hx hb d7 ?_ kk
    rw [show decide (x ≠ 0) = false from decide_eq_false (fun q => q hc)]
    decide
  · refine lv_iconst (v := kb (decide (x ≠ 0))) hx hb d3 ?_ (lv_goto (tgt := pc + 8) hx hb d4 (by omega) kk)
    rw [show decide (x ≠ 0) = true from decide_eq_true hc]
    decide
end KO
theorem kSt_up {P : Nat → kIns} {n : Nat} {x : kU} {f : Nat → Int32} (h : kSt P n x) : kSt P n (va_up x 16 f) := ⟨kIn_of (fun j hj => va_up_ne _ _ (by omega)) h.1, fun i hi => kRow_of (fun j h1 h2 => by rw [va_up_ne _ _ (by omega)]) (h.2 i hi)⟩
theorem kcast {s : State} {args : Array Value} {E : String} (hE : kE s) (h : Cond.castable E E ∈ kND) : (Cond.castable E E).before args s = true := va_tabs (kND_ot h) rfl (hE.1 _ h)
