/-! What every method's start holds beside its world (words that the tables decide, texts, Throwable's two statics); calls, returns and throws in these words. -/
abbrev kU : Type := Nat → Nat → Int32
abbrev kIAE : String := "java/lang/IllegalArgumentException"
abbrev kISE : String := "java/lang/IllegalStateException"
abbrev kIOB : String := "java/lang/IndexOutOfBoundsException"
abbrev kup : List String := ["java/lang/RuntimeException", "java/lang/Exception"]
def kND : List Cond := [.declares ⟨"java/lang/RuntimeException", "<init>", "(Ljava/lang/String;)V"⟩, .declares ⟨"java/lang/Exception", "<init>", "(Ljava/lang/String;)V"⟩, .declares ⟨"java/lang/Throwable", "<init>", "(Ljava/lang/String;)V"⟩, .castable kIAE kIAE, .castable kISE kISE, .castable kIOB kIOB]
def kTX : List (Nat × String) := [(93, "t is not 1 to 12, or wait is not 0 to 8"), (95, "gets or late is not 0 to 15"), (50, "there are 200 instructions"), (71, "there are not so many instructions"), (74, "there is no such time"), (76, "there is no such stage"), (82, "there is no such register"), (91, "there is no such count"), (99, "there is no such instruction")]
theorem kND_ot {w : Cond} (hw : w ∈ kND) : w.onTables = true := by
  simp only [kND, List.mem_cons, List.not_mem_nil, or_false] at hw
  rcases hw with rfl | rfl | rfl | rfl | rfl | rfl <;> rfl
theorem kND_moved {u U : State} (hvm : u.vm.Alike U.vm) {w : Cond} (hw : w ∈ kND) (h : w.before #[] u = true) : w.before #[] U = true := by
  have key : w.before #[] (u.setVm U.vm) = w.before #[] u := by
    simp only [kND, List.mem_cons, List.not_mem_nil, or_false] at hw
    rcases hw with rfl | rfl | rfl | rfl | rfl | rfl
    · exact Cond.declares_setVm hvm _
    · exact Cond.declares_setVm hvm _
    · exact Cond.declares_setVm hvm _
    · exact Cond.castable_setVm hvm _ _
    · exact Cond.castable_setVm hvm _ _
    · exact Cond.castable_setVm hvm _ _
  exact va_tabs (u := u.setVm U.vm) (kND_ot hw) rfl (key.trans h)
def kE (U : State) : Prop := (∀ w ∈ kND, w.before #[] U = true) ∧ (∀ q ∈ kTX, ∃ a : Nat, vk_R "StageClock" q.1 q.2 a U) ∧ va_Nc kISE kIAE U ∧ va_Nc kIOB kIAE U
theorem kE.warm {s U : State} (hW : s.WarmedH U.vm) (h : kE s) : kE U := ⟨fun w hw => kND_moved hW.alike hw (h.1 w hw), fun q hq => (h.2.1 q hq).imp fun _ r => vk_R.warm hW r, h.2.2.1.moved hW.alike, h.2.2.2.moved hW.alike⟩
theorem kE.same {u U : State} (hv : U.vm = u.vm) (h : kE u) : kE U := ⟨fun w hw => va_tabs (kND_ot hw) hv.symm (h.1 w hw), fun q hq => (h.2.1 q hq).imp fun _ r => vk_R.same hv r, h.2.2.1.moved (by rw [hv]; exact Vm.Alike.refl _), h.2.2.2.moved (by rw [hv]; exact Vm.Alike.refl _)⟩
def kZ (A : Nat → Prop) (U : State) (H : Heap) : Prop := vx_Zq Bundle.tN "UNASSIGNED_STACK" Bundle.steD A U H ∧ vx_Zq Bundle.tN "SUPPRESSED_SENTINEL" Bundle.listD A U H
theorem kZ.call {A A' : Nat → Prop} {s U : State} {H : Heap} {locs : List Loc} (h : kZ A s s.heap) (hS : va_S A s.heap H locs) (hA : ∀ q, A' q → A q) (hU : U.heap = H) (hvm : s.vm.Alike U.vm) : kZ A' U U.heap := by
  rw [hU]
  exact ⟨((h.1.kept hS.2.1).moved hvm).narrow hA, ((h.2.kept hS.2.1).moved hvm).narrow hA⟩
theorem kfree {D : va_G} {A : Nat → Prop} {H0 H : Heap} {w : va_W} {locs : List Loc} (hI : kI D A H0 w H locs) (hA : ∀ q, H0.size ≤ q → A q) : ∀ q, va_A w H.size q → A q := fun q h => h.elim (fun ⟨k, _, hk⟩ => hI.2.1.2 k _ hk) (fun h => hA q (Nat.le_trans hI.2.2.1 h))
/-- the start of a method in the world w -/
def kPre (D : va_G) (tys : List (ClassId × FieldType)) (w : va_W) (sz : Nat) (U : State) : Prop := U.heap.size = sz ∧ va_P D kcl w U.heap ∧ va_K D kcl tys U ∧ va_D (fun _ => True) w ∧ kE U ∧ kZ (va_A w sz) U U.heap
theorem kPre_blind {D : va_G} {tys : List (ClassId × FieldType)} {w : va_W} {sz : Nat} {av : List Value} : FrameBlind (va_Pc av (kPre D tys w sz)) := fun a U g mk q => by
  obtain ⟨q0, q1, qP, qK, qD, qE, qZ⟩ := q
  exact ⟨q0, q1, qP, va_K.moved (u := U) (U := U.calling g mk a) (Vm.Alike.refl U.vm) qK, qD, kE.same (u := U) rfl qE, ⟨vx_Zq.moved (u := U) (U := U.calling g mk a) (Vm.Alike.refl U.vm) qZ.1, vx_Zq.moved (u := U) (U := U.calling g mk a) (Vm.Alike.refl U.vm) qZ.2⟩⟩
theorem kPre_call {D : va_G} {tys : List (ClassId × FieldType)} {A : Nat → Prop} {s : State} {w : va_W} {H : Heap} {locs : List Loc} (hI : kI D A s.heap w H locs) (hA : ∀ q, s.heap.size ≤ q → A q) (hK : va_K D kcl tys s) (hE : kE s) (hZ : kZ A s s.heap) (U : State) (hU : U.heap = H) (hW : s.WarmedH U.vm) : kPre D tys w H.size U :=
  ⟨by rw [hU], by rw [hU]; exact hI.1, va_K.moved hW.alike hK, hI.2.1.weaken (fun _ _ _ _ => trivial), hE.warm hW, hZ.call hI.2.2 (kfree hI hA) hU hW.alike⟩
/-! contracts: answers an int, answers nothing; the same of methods that may throw (TE: which exception may come) -/
def kMi (l : Launch) (D : va_G) (tys : List (ClassId × FieldType)) (y : MethodName) (cd : Cond) (rm : Room) (av : List Value) (wf : kU → va_W) (u : kU) (sz : Nat) (post : Int32 → kU → Prop) : Prop :=
  Met l y (cd :: kBIG) rm (va_Pc av (kPre D tys (wf u) sz)) (va_Qi post (fun x t => kB D tys (va_A (wf u) sz) (wf x) t) (va_A (wf u) sz)) rm.cells rm.slots (va_A (wf u) sz)
def kMv (l : Launch) (D : va_G) (tys : List (ClassId × FieldType)) (y : MethodName) (cd : Cond) (rm : Room) (av : List Value) (wf : kU → va_W) (u : kU) (sz : Nat) (post : kU → Prop) : Prop :=
  Met l y (cd :: kBIG) rm (va_Pc av (kPre D tys (wf u) sz)) (va_Qv post (fun x t => kB D tys (va_A (wf u) sz) (wf x) t) (va_A (wf u) sz)) rm.cells rm.slots (va_A (wf u) sz)
def kTE (D : va_G) (tys : List (ClassId × FieldType)) (A : Nat → Prop) (wf : kU → va_W) (u : kU) (TE : String → Prop) : String → State → State → Prop := vx_X (fun x => x = u) (fun E x t => TE E ∧ kB D tys A (wf x) t) A
def kXi (l : Launch) (D : va_G) (tys : List (ClassId × FieldType)) (y : MethodName) (cd : Cond) (rm : Room) (av : List Value) (wf : kU → va_W) (u : kU) (sz : Nat) (post : Int32 → kU → Prop) (TE : String → Prop) : Prop :=
  vx_Met l y (cd :: kBIG) rm (va_Pc av (kPre D tys (wf u) sz)) (va_Qi post (fun x t => kB D tys (va_A (wf u) sz) (wf x) t) (va_A (wf u) sz)) (kTE D tys (va_A (wf u) sz) wf u TE) rm.cells rm.slots (va_A (wf u) sz)
def kXv (l : Launch) (D : va_G) (tys : List (ClassId × FieldType)) (y : MethodName) (cd : Cond) (rm : Room) (av : List Value) (wf : kU → va_W) (u : kU) (sz : Nat) (post : kU → Prop) (TE : String → Prop) : Prop :=
  vx_Met l y (cd :: kBIG) rm (va_Pc av (kPre D tys (wf u) sz)) (va_Qv post (fun x t => kB D tys (va_A (wf u) sz) (wf x) t) (va_A (wf u) sz)) (kTE D tys (va_A (wf u) sz) wf u TE) rm.cells rm.slots (va_A (wf u) sz)
theorem kgV {own C : String} {idx : Nat} {y : MethodName} {cd : Cond} (h1 : Cond.methodLink own idx y ∈ kBIG) (h2 : Cond.instanceMethod y ∈ kBIG) (h3 : Cond.selects C y y ∈ kBIG) (h4 : Cond.initialized C ∈ kBIG) (h5 : cd ∈ kBIG) : GoodIn kBIG (wsV own idx C y (cd :: kBIG)) := by
  intro w hw
  have hm : w ∈ kBIG := by
    unfold wsV at hw
    rcases List.mem_append.mp hw with hw | hw
    · simp only [List.mem_cons, List.not_mem_nil, or_false] at hw
      rcases hw with rfl | rfl | rfl | rfl <;> assumption
    · rcases List.mem_cons.mp hw with rfl | hw <;> assumption
  exact ⟨hm, good_of_word (kgood hm)⟩
theorem kgS {own : String} {idx : Nat} {y : MethodName} {cd : Cond} (h1 : Cond.methodLink own idx y ∈ kBIG) (h2 : Cond.static y ∈ kBIG) (h4 : Cond.initialized y.cls ∈ kBIG) (h5 : cd ∈ kBIG) : GoodIn kBIG (va_wsS own idx y (cd :: kBIG)) := by
  intro w hw
  have hm : w ∈ kBIG := by
    unfold va_wsS at hw
    rcases List.mem_append.mp hw with hw | hw
    · simp only [List.mem_cons, List.not_mem_nil, or_false] at hw
      rcases hw with rfl | rfl | rfl <;> assumption
    · rcases List.mem_cons.mp hw with rfl | hw <;> assumption
  exact ⟨hm, good_of_word (kgood hm)⟩
section KE
variable {p : Program} {l : Launch} {e : Env} {R : Room} {s : State} {m : MethodId} {args : Array Value} {below : List Frame} {meth : Method} {c : Code} {H : Heap} {locs : List Loc} {cells slots : Nat} {Q : State → Prop}
variable {cc : ByteArray} {pc : Nat} {ls : Array Slot} {rest : List Value} {D : va_G} {tys : List (ClassId × FieldType)} {A : Nat → Prop} {u x : kU} {wf : kU → va_W}
/-- behind a call in the whole world of the caller -/
theorem kback {w w1 : va_W} {H1 : Heap} {locs1 : List Loc} {t : State} (hI : kI D A s.heap w H locs) (hA : ∀ q, s.heap.size ≤ q → A q) (ht : t.heap = H1) (hB : kB D tys (va_A w H.size) w1 t) (hS : va_S A s.heap H1 locs1) : kI D A s.heap w1 H1 locs1 :=
  ⟨by rw [← ht]; exact hB.1, hB.2.2.weaken (fun _ _ _ q => kfree hI hA _ q), hS⟩
/-- an int-answering method of an object, called in the whole world -/
theorem kcall_i {y : MethodName} {own C : String} {index maxL nL n : Nat} {bytes : ByteArray} {ret : Option FieldType} {rm : Room} {b : Nat} {As : List Value} {post : Int32 → kU → Prop} (hx : p.tables.exec = Jvm.exec) (hb : c.code = cc) (hml : c.maxLocals = nL) (hown : s.vm.findClass own = some m.cls) (hB : ∀ w ∈ kBIG, w.before args s = true) (hK : va_K D kcl tys s) (hI : kI D A s.heap (wf u) H locs) (hA : ∀ q, s.heap.size ≤ q → A q) (hE : kE s) (hZ : kZ A s s.heap)
    (hM : kMi l D tys y (.code y bytes maxL ret) rm (.ref b :: As) wf u H.size post) (hG : GoodIn kBIG (wsV own index C y (Cond.code y bytes maxL ret :: kBIG))) (hy : y.cls = C ∧ y.cls ≠ "java/lang/invoke/MethodHandle" ∧ y.cls ≠ "java/lang/invoke/VarHandle" ∧ (parseMethodDescriptor y.desc).map (fun d => d.parameters.length) = some n) (hR : rm.frames + 1 ≤ R.frames ∧ 8 + (maxL + 11) + rm.locals ≤ R.locals)
    (hrecv : ∃ cellB : Cell, H[b]? = some cellB ∧ cellB.vm.isStatics = false ∧ s.vm.findClass C = some cellB.cls) (hn : As.length = n) (hls : ls.size = nL) (hW : (rest.map fun v => v.category).sum ≤ 8) (hdg : decode cc pc = .ok (.invokevirtual index, 3)) (hf : cells + rm.cells ≤ R.cells ∧ slots + rm.slots ≤ R.slots) {st : List Value} (hst : st = As.reverse ++ .ref b :: rest)
    (kk : ∀ (r : Int32) (x : kU) (H1 : Heap) (locs1 : List Loc), post r x → kI D A s.heap (wf x) H1 locs1 → W p l e R s m args below meth c H1 locs1 (cells + rm.cells) (slots + rm.slots) Q (F0 m (pc + 3) ls (.int r :: rest))) : W p l e R s m args below meth c H locs cells slots Q (F0 m pc ls st) :=
  va_calli (va_runV (As := As) (rest := rest) ⟨hx, hb, hml, hown, hB⟩ hM (cwV n hB hG rfl rfl rfl hy hR) ⟨kPre_blind, hrecv, fun U hU hW => ⟨rfl, kPre_call hI hA hK hE hZ U hU hW⟩⟩ rfl hn hls hst (lv_room hW) hdg hf) hI.2.2 (fun q _ h => kfree hI hA q h) (kfree hI hA) (fun r x t H1 locs1 ht _ hp hB _ _ hS => kk r x H1 locs1 hp (kback hI hA ht hB hS))
theorem kcall_v {y : MethodName} {own C : String} {index maxL nL n : Nat} {bytes : ByteArray} {ret : Option FieldType} {rm : Room} {b : Nat} {As : List Value} {post : kU → Prop} (hx : p.tables.exec = Jvm.exec) (hb : c.code = cc) (hml : c.maxLocals = nL) (hown : s.vm.findClass own = some m.cls) (hB : ∀ w ∈ kBIG, w.before args s = true) (hK : va_K D kcl tys s) (hI : kI D A s.heap (wf u) H locs) (hA : ∀ q, s.heap.size ≤ q → A q) (hE : kE s) (hZ : kZ A s s.heap)
    (hM : kMv l D tys y (.code y bytes maxL ret) rm (.ref b :: As) wf u H.size post) (hG : GoodIn kBIG (wsV own index C y (Cond.code y bytes maxL ret :: kBIG))) (hy : y.cls = C ∧ y.cls ≠ "java/lang/invoke/MethodHandle" ∧ y.cls ≠ "java/lang/invoke/VarHandle" ∧ (parseMethodDescriptor y.desc).map (fun d => d.parameters.length) = some n) (hR : rm.frames + 1 ≤ R.frames ∧ 8 + (maxL + 11) + rm.locals ≤ R.locals)
    (hrecv : ∃ cellB : Cell, H[b]? = some cellB ∧ cellB.vm.isStatics = false ∧ s.vm.findClass C = some cellB.cls) (hn : As.length = n) (hls : ls.size = nL) (hW : (rest.map fun v => v.category).sum ≤ 8) (hdg : decode cc pc = .ok (.invokevirtual index, 3)) (hf : cells + rm.cells ≤ R.cells ∧ slots + rm.slots ≤ R.slots) {st : List Value} (hst : st = As.reverse ++ .ref b :: rest)
    (kk : ∀ (x : kU) (H1 : Heap) (locs1 : List Loc), post x → kI D A s.heap (wf x) H1 locs1 → W p l e R s m args below meth c H1 locs1 (cells + rm.cells) (slots + rm.slots) Q (F0 m (pc + 3) ls rest)) : W p l e R s m args below meth c H locs cells slots Q (F0 m pc ls st) :=
  va_callv (va_runV (As := As) (rest := rest) ⟨hx, hb, hml, hown, hB⟩ hM (cwV n hB hG rfl rfl rfl hy hR) ⟨kPre_blind, hrecv, fun U hU hW => ⟨rfl, kPre_call hI hA hK hE hZ U hU hW⟩⟩ rfl hn hls hst (lv_room hW) hdg hf) hI.2.2 (fun q _ h => kfree hI hA q h) (kfree hI hA) (fun x t H1 locs1 ht _ hp hB _ _ hS => kk x H1 locs1 hp (kback hI hA ht hB hS))
/-- static, in the whole world -/
theorem kcall_si {y : MethodName} {own : String} {index maxL nL n : Nat} {bytes : ByteArray} {ret : Option FieldType} {rm : Room} {As : List Value} {post : Int32 → kU → Prop} (hx : p.tables.exec = Jvm.exec) (hb : c.code = cc) (hml : c.maxLocals = nL) (hown : s.vm.findClass own = some m.cls) (hB : ∀ w ∈ kBIG, w.before args s = true) (hK : va_K D kcl tys s) (hI : kI D A s.heap (wf u) H locs) (hA : ∀ q, s.heap.size ≤ q → A q) (hE : kE s) (hZ : kZ A s s.heap)
    (hM : kMi l D tys y (.code y bytes maxL ret) rm As wf u H.size post) (hG : GoodIn kBIG (va_wsS own index y (Cond.code y bytes maxL ret :: kBIG))) (hy : y.cls ≠ "java/lang/invoke/MethodHandle" ∧ y.cls ≠ "java/lang/invoke/VarHandle" ∧ (parseMethodDescriptor y.desc).map (fun d => d.parameters.length) = some n) (hR : rm.frames + 1 ≤ R.frames ∧ 8 + (maxL + 11) + rm.locals ≤ R.locals)
    (hn : As.length = n) (hls : ls.size = nL) (hW : (rest.map fun v => v.category).sum ≤ 8) (hdg : decode cc pc = .ok (.invokestatic index, 3)) (hf : cells + rm.cells ≤ R.cells ∧ slots + rm.slots ≤ R.slots) {st : List Value} (hst : st = As.reverse ++ rest)
    (kk : ∀ (r : Int32) (x : kU) (H1 : Heap) (locs1 : List Loc), post r x → kI D A s.heap (wf x) H1 locs1 → W p l e R s m args below meth c H1 locs1 (cells + rm.cells) (slots + rm.slots) Q (F0 m (pc + 3) ls (.int r :: rest))) : W p l e R s m args below meth c H locs cells slots Q (F0 m pc ls st) :=
  va_calli (va_runS (As := As) (rest := rest) ⟨hx, hb, hml, hown, hB⟩ hM (va_cwS n hB hG rfl rfl rfl hy hR) ⟨kPre_blind, fun U hU hW => ⟨rfl, kPre_call hI hA hK hE hZ U hU hW⟩⟩ rfl hn hls hst (lv_room hW) hdg hf) hI.2.2 (fun q _ h => kfree hI hA q h) (kfree hI hA) (fun r x t H1 locs1 ht _ hp hB _ _ hS => kk r x H1 locs1 hp (kback hI hA ht hB hS))
theorem kcall_sv {y : MethodName} {own : String} {index maxL nL n : Nat} {bytes : ByteArray} {ret : Option FieldType} {rm : Room} {As : List Value} {post : kU → Prop} (hx : p.tables.exec = Jvm.exec) (hb : c.code = cc) (hml : c.maxLocals = nL) (hown : s.vm.findClass own = some m.cls) (hB : ∀ w ∈ kBIG, w.before args s = true) (hK : va_K D kcl tys s) (hI : kI D A s.heap (wf u) H locs) (hA : ∀ q, s.heap.size ≤ q → A q) (hE : kE s) (hZ : kZ A s s.heap)
    (hM : kMv l D tys y (.code y bytes maxL ret) rm As wf u H.size post) (hG : GoodIn kBIG (va_wsS own index y (Cond.code y bytes maxL ret :: kBIG))) (hy : y.cls ≠ "java/lang/invoke/MethodHandle" ∧ y.cls ≠ "java/lang/invoke/VarHandle" ∧ (parseMethodDescriptor y.desc).map (fun d => d.parameters.length) = some n) (hR : rm.frames + 1 ≤ R.frames ∧ 8 + (maxL + 11) + rm.locals ≤ R.locals)
    (hn : As.length = n) (hls : ls.size = nL) (hW : (rest.map fun v => v.category).sum ≤ 8) (hdg : decode cc pc = .ok (.invokestatic index, 3)) (hf : cells + rm.cells ≤ R.cells ∧ slots + rm.slots ≤ R.slots) {st : List Value} (hst : st = As.reverse ++ rest)
    (kk : ∀ (x : kU) (H1 : Heap) (locs1 : List Loc), post x → kI D A s.heap (wf x) H1 locs1 → W p l e R s m args below meth c H1 locs1 (cells + rm.cells) (slots + rm.slots) Q (F0 m (pc + 3) ls rest)) : W p l e R s m args below meth c H locs cells slots Q (F0 m pc ls st) :=
  va_callv (va_runS (As := As) (rest := rest) ⟨hx, hb, hml, hown, hB⟩ hM (va_cwS n hB hG rfl rfl rfl hy hR) ⟨kPre_blind, fun U hU hW => ⟨rfl, kPre_call hI hA hK hE hZ U hU hW⟩⟩ rfl hn hls hst (lv_room hW) hdg hf) hI.2.2 (fun q _ h => kfree hI hA q h) (kfree hI hA) (fun x t H1 locs1 ht _ hp hB _ _ hS => kk x H1 locs1 hp (kback hI hA ht hB hS))
/-- a callee that may throw, called where nothing is caught: what it throws goes on to the caller's caller -/
theorem kcall_x {y : MethodName} {own C : String} {index maxL nL n : Nat} {bytes : ByteArray} {ret : Option FieldType} {rm : Room} {b : Nat} {As : List Value} {post : kU → Prop} {TE TE2 : String → Prop} {Qc : Array Value → State → Outcome → State → Prop} {mc ms : Nat} (hx : p.tables.exec = Jvm.exec) (hb : c.code = cc) (hml : c.maxLocals = nL) (hown : s.vm.findClass own = some m.cls) (hB : ∀ w ∈ kBIG, w.before args s = true) (hK : va_K D kcl tys s) (hI : kI D A s.heap (wf u) H locs) (hA : ∀ q, s.heap.size ≤ q → A q) (hE : kE s) (hZ : kZ A s s.heap)
    (hM : kXv l D tys y (.code y bytes maxL ret) rm (.ref b :: As) wf u H.size post TE2) (hG : GoodIn kBIG (wsV own index C y (Cond.code y bytes maxL ret :: kBIG))) (hy : y.cls = C ∧ y.cls ≠ "java/lang/invoke/MethodHandle" ∧ y.cls ≠ "java/lang/invoke/VarHandle" ∧ (parseMethodDescriptor y.desc).map (fun d => d.parameters.length) = some n) (hR : rm.frames + 1 ≤ R.frames ∧ 8 + (maxL + 11) + rm.locals ≤ R.locals)
    (hrecv : ∃ cellB : Cell, H[b]? = some cellB ∧ cellB.vm.isStatics = false ∧ s.vm.findClass C = some cellB.cls) (hn : As.length = n) (hls : ls.size = nL) (hW : (rest.map fun v => v.category).sum ≤ 8) (hdg : decode cc pc = .ok (.invokevirtual index, 3)) (hf : cells + rm.cells ≤ R.cells ∧ slots + rm.slots ≤ R.slots) {st : List Value} (hst : st = As.reverse ++ .ref b :: rest)
    (hnt : ∀ z ∈ c.exceptionTable.toList, False) (hlocks : meth.locks = false) (hTE : ∀ E, TE2 E → TE E) (hc : cells + rm.cells ≤ mc) (hs : slots + rm.slots ≤ ms)
    (kk : ∀ (x : kU) (H1 : Heap) (locs1 : List Loc), post x → kI D A s.heap (wf x) H1 locs1 → W p l e R s m args below meth c H1 locs1 (cells + rm.cells) (slots + rm.slots) (vx_MQ below Qc (kTE D tys A wf u TE) args s mc ms A) (F0 m (pc + 3) ls rest)) : W p l e R s m args below meth c H locs cells slots (vx_MQ below Qc (kTE D tys A wf u TE) args s mc ms A) (F0 m pc ls st) :=
  vx_callv (vx_runV (As := As) (rest := rest) ⟨hx, hb, hml, hown, hB⟩ hM (cwV n hB hG rfl rfl rfl hy hR) ⟨kPre_blind, hrecv, fun U hU hW => ⟨rfl, kPre_call hI hA hK hE hZ U hU hW⟩⟩ rfl hn hls hst (lv_room hW) hdg hf) hI.2.2 (fun q _ h => kfree hI hA q h) (kfree hI hA) (fun q _ h => kfree hI hA q h)
    (fun E ce q9 x t H1 locs1 ht _ hp hB _ _ hS hce hcv hcl => by
      rw [hp] at hB
      have hI1 := kback hI hA ht hB.2 hS
      exact vx_out (E := E) (ce := ce) (fun z hz => (hnt z hz).elim) hlocks hce hcv hcl (fun t2 ht2 hvm2 => ⟨u, rfl, ⟨hTE E hB.1, by rw [ht2]; exact hI1.1, va_K.moved hvm2 hK, hI1.2.1⟩, hS.F ht2⟩) hS.2.2 hc hs)
    (fun x t H1 locs1 ht _ hp hB _ _ hS => kk x H1 locs1 hp (kback hI hA ht hB hS))
/-! ends -/
theorem kret_i {v : Int32} {post : Int32 → kU → Prop} (hx : p.tables.exec = Jvm.exec) (hb : c.code = cc) (hr : meth.sig.returnType = some .int) (hlocks : meth.locks = false) (hK : va_K D kcl tys s) (hI : kI D A s.heap (wf x) H locs) (hp : post v x) (hdg : decode cc pc = .ok (.ireturn, 1)) : W p l e R s m args below meth c H locs cells slots (MQ below (va_Qi post (fun x t => kB D tys A (wf x) t) A) args s cells slots A) (F0 m pc ls [.int v]) :=
  W.iret hx hb hr (fun t ht hW => ⟨⟨v, x, rfl, hp, by rw [ht]; exact hI.1, va_K.moved hW.alike hK, hI.2.1⟩, hI.2.2.F ht⟩) hI.2.2.2.2 hdg hlocks
theorem kret_z {v : Int32} {post : Int32 → kU → Prop} (hx : p.tables.exec = Jvm.exec) (hb : c.code = cc) (hr : meth.sig.returnType = some .boolean) (hlocks : meth.locks = false) (hK : va_K D kcl tys s) (hI : kI D A s.heap (wf x) H locs) (hn : narrow .boolean (.int v) = .int v) (hp : post v x) (hdg : decode cc pc = .ok (.ireturn, 1)) : W p l e R s m args below meth c H locs cells slots (MQ below (va_Qi post (fun x t => kB D tys A (wf x) t) A) args s cells slots A) (F0 m pc ls [.int v]) :=
  W.zret hx hb hr hn (fun t ht hW => ⟨⟨v, x, rfl, hp, by rw [ht]; exact hI.1, va_K.moved hW.alike hK, hI.2.1⟩, hI.2.2.F ht⟩) hI.2.2.2.2 hdg hlocks
theorem kret_v {post : kU → Prop} (hx : p.tables.exec = Jvm.exec) (hb : c.code = cc) (hr : meth.sig.returnType = none) (hlocks : meth.locks = false) (hK : va_K D kcl tys s) (hI : kI D A s.heap (wf x) H locs) (hp : post x) (hdg : decode cc pc = .ok (.return_, 1)) : W p l e R s m args below meth c H locs cells slots (MQ below (va_Qv post (fun x t => kB D tys A (wf x) t) A) args s cells slots A) (F0 m pc ls []) :=
  W.vret hx hb hr (fun t ht hW => ⟨⟨x, rfl, hp, by rw [ht]; exact hI.1, va_K.moved hW.alike hK, hI.2.1⟩, hI.2.2.F ht⟩) hI.2.2.2.2 hdg hlocks
theorem kret_xi {v : Int32} {post : Int32 → kU → Prop} {TE : String → Prop} {mc ms : Nat} (hc : cells ≤ mc) (hs : slots ≤ ms) (hx : p.tables.exec = Jvm.exec) (hb : c.code = cc) (hr : meth.sig.returnType = some .int) (hlocks : meth.locks = false) (hK : va_K D kcl tys s) (hI : kI D A s.heap (wf x) H locs) (hp : post v x) (hdg : decode cc pc = .ok (.ireturn, 1)) : W p l e R s m args below meth c H locs cells slots (vx_MQ below (va_Qi post (fun x t => kB D tys A (wf x) t) A) (kTE D tys A wf u TE) args s mc ms A) (F0 m pc ls [.int v]) :=
  vx_ret (W.widen hc hs (kret_i hx hb hr hlocks hK hI hp hdg))
theorem kret_xv {post : kU → Prop} {TE : String → Prop} {mc ms : Nat} (hc : cells ≤ mc) (hs : slots ≤ ms) (hx : p.tables.exec = Jvm.exec) (hb : c.code = cc) (hr : meth.sig.returnType = none) (hlocks : meth.locks = false) (hK : va_K D kcl tys s) (hI : kI D A s.heap (wf x) H locs) (hp : post x) (hdg : decode cc pc = .ok (.return_, 1)) : W p l e R s m args below meth c H locs cells slots (vx_MQ below (va_Qv post (fun x t => kB D tys A (wf x) t) A) (kTE D tys A wf u TE) args s mc ms A) (F0 m pc ls []) :=
  vx_ret (W.widen hc hs (kret_v hx hb hr hlocks hK hI hp hdg))
theorem k_max {x y v : Int32} (hx : p.tables.exec = Jvm.exec) (hb : c.code = cc) (hml : c.maxLocals = ls.size) (hown : s.vm.findClass "StageClock" = some m.cls) (hB : ∀ w ∈ kBIG, w.before args s = true) (hf : 1 ≤ R.frames) (hl : (rest.map fun v => v.category).sum + 13 ≤ R.locals) (hc : cells ≤ R.cells) (hs : slots ≤ R.slots) (hv : (if x < y then y else x) = v) (hdg : decode cc pc = .ok (.invokestatic 121, 3))
    (kk : W p l e R s m args below meth c H locs cells slots Q (F0 m (pc + 3) ls (.int v :: rest))) : W p l e R s m args below meth c H locs cells slots Q (F0 m pc ls (.int y :: .int x :: rest)) := by
  subst hv
  exact va_mmax hx hb hml hown (hB _ kw_183) (hB _ kw_184) (hB _ kw_9) (hB _ kw_185) hf hl hc hs hdg kk
end KE
/-! throws -/
theorem kat_I : ∀ w ∈ (vx_atS "StageClock" 73 kIAE kup).filter goodWord, w ∈ lw_tbl := by decide +kernel
theorem kan_I : ∀ w ∈ (vx_atS "StageClock" 73 kIAE kup).filter (fun w => !goodWord w), w ∈ kND := by decide +kernel
theorem kag_I : ∀ w ∈ Cond.classLink "StageClock" 69 kIAE :: Cond.initialized kIAE :: vx_atS "StageClock" 73 kIAE kup, vx_ot w = true := by decide +kernel
theorem kat_S : ∀ w ∈ (vx_atS "StageClock" 52 kISE kup).filter goodWord, w ∈ lw_tbl := by decide +kernel
theorem kan_S : ∀ w ∈ (vx_atS "StageClock" 52 kISE kup).filter (fun w => !goodWord w), w ∈ kND := by decide +kernel
theorem kag_S : ∀ w ∈ Cond.classLink "StageClock" 48 kISE :: Cond.initialized kISE :: vx_atS "StageClock" 52 kISE kup, vx_ot w = true := by decide +kernel
theorem kat_B : ∀ w ∈ (vx_atS "StageClock" 101 kIOB kup).filter goodWord, w ∈ lw_tbl := by decide +kernel
theorem kan_B : ∀ w ∈ (vx_atS "StageClock" 101 kIOB kup).filter (fun w => !goodWord w), w ∈ kND := by decide +kernel
theorem kag_B : ∀ w ∈ Cond.classLink "StageClock" 97 kIOB :: Cond.initialized kIOB :: vx_atS "StageClock" 101 kIOB kup, vx_ot w = true := by decide +kernel
section KT
variable {p : Program} {l : Launch} {e : Env} {R : Room} {s : State} {m : MethodId} {args : Array Value} {below : List Frame} {meth : Method} {c : Code} {H : Heap} {locs : List Loc} {cells slots : Nat}
variable {cc : ByteArray} {pc : Nat} {ls : Array Slot} {rest : List Value} {D : va_G} {tys : List (ClassId × FieldType)} {A : Nat → Prop} {u : kU} {wf : kU → va_W}
theorem kthr {cls text : String} {ik is ic mc ms : Nat} {TE : String → Prop} {Qc : Array Value → State → Outcome → State → Prop} (hq : (is, text) ∈ kTX) (hx : p.tables.exec = Jvm.exec) (hb : c.code = cc) (hl : l.stackTraces = false) (hB : ∀ w ∈ kBIG, w.before args s = true) (hown : s.vm.findClass "StageClock" = some m.cls) (hK : va_K D kcl tys s) (hI : kI D A s.heap (wf u) H locs) (hE : kE s) (hZ : kZ A s s.heap)
    (hfit : Bundle.fit cls = true) (hk : Cond.classLink "StageClock" ik cls ∈ kBIG) (hi : Cond.initialized cls ∈ kBIG) (ha : ∀ w ∈ (vx_atS "StageClock" ic cls kup).filter goodWord, w ∈ lw_tbl) (hn : ∀ w ∈ (vx_atS "StageClock" ic cls kup).filter (fun w => !goodWord w), w ∈ kND) (hg : ∀ w ∈ Cond.classLink "StageClock" ik cls :: Cond.initialized cls :: vx_atS "StageClock" ic cls kup, vx_ot w = true)
    (hls : ls.size = c.maxLocals) (hnt : ∀ z ∈ c.exceptionTable.toList, False) (hlocks : meth.locks = false)
    (d0 : decode cc pc = .ok (.new ik, 3)) (d3 : decode cc (pc + 3) = .ok (.dup, 1)) (d4 : decode cc (pc + 4) = .ok (.ldc is, 2)) (d6 : decode cc (pc + 6) = .ok (.invokespecial ic, 3)) (d9 : decode cc (pc + 9) = .ok (.athrow, 1))
    (hRf : 5 < R.frames) (hRl : (rest.map fun v => v.category).sum + 82 ≤ R.locals) (hRc : cells + 1 ≤ R.cells) (hRs : slots + 6 ≤ R.slots) (hc : cells + 1 ≤ mc) (hs : slots + 6 ≤ ms) (hTE : TE cls) :
    W p l e R s m args below meth c H locs cells slots (vx_MQ below Qc (kTE D tys A wf u TE) args s mc ms A) (F0 m pc ls rest) := by
  obtain ⟨sa, hsa⟩ := hE.2.1 _ hq
  refine vx_throwS (names := kup) (A := A) hx hb hl hown hfit (by decide +kernel) (hB _ hk) (hB _ hi) hsa (vx_hat (fun w q => hB w (List.mem_filter.mpr ⟨ha w q, (List.mem_filter.mp q).2⟩)) hn (fun w q => va_tabs (kND_ot q) rfl (hE.1 w q))) hg hZ.1 hZ.2 hI.2.2 hls d0 d3 d4 d6 d9 (fun z q => (hnt z q).elim) hRf hRl hRc hRs hlocks (fun t hvm hz hk => ?_) hI.2.2.2.2 hc hs
  refine ⟨u, rfl, ⟨hTE, hI.1.kept (fun k y hy => hk y.1 ((hI.1 k y hy).lt)), va_K.moved hvm hK, hI.2.1⟩, Nat.le_trans hI.2.2.1 hz, fun q h1 h2 => ?_⟩
  rw [hk q (Nat.lt_of_lt_of_le h1 hI.2.2.1)]
  exact hI.2.2.2.1 q h1 h2
end KT
